/-! the directory seen from both sides -/
theorem modle {x y a b : Nat} (h : a ≤ b) (e : x % 2 ^ b = y % 2 ^ b) : x % 2 ^ a = y % 2 ^ a := by
  rw [← Nat.mod_mod_of_dvd x (Nat.pow_dvd_pow 2 h), e, Nat.mod_mod_of_dvd y (Nat.pow_dvd_pow 2 h)]
theorem mod2 (x l : Nat) : x % 2 ^ (l + 1) = x % 2 ^ l + 2 ^ l * (x / 2 ^ l % 2) := Nat.mod_pow_succ
theorem mod2c (x l : Nat) : x % 2 ^ (l + 1) = x % 2 ^ l ∨ x % 2 ^ (l + 1) = x % 2 ^ l + 2 ^ l := by
  rw [mod2]
  rcases Nat.mod_two_eq_zero_or_one (x / 2 ^ l) with h | h <;> rw [h] <;> simp
theorem xorflip (e l : Nat) : (e ^^^ 2 ^ l) % 2 ^ (l + 1) = e % 2 ^ l + 2 ^ l * (1 - e / 2 ^ l % 2) := by
  have hp := Nat.two_pow_pos l
  rw [mod2, Nat.xor_mod_two_pow, Nat.mod_self, Nat.xor_zero, Nat.xor_div_two_pow, Nat.div_self hp]
  congr 2
  have h1 := @Nat.xor_mod_two_eq_one (e / 2 ^ l) 1
  have h2 := Nat.mod_lt (e / 2 ^ l ^^^ 1) (show 0 < 2 by omega)
  rcases Nat.mod_two_eq_zero_or_one (e / 2 ^ l) with h | h
  · have h3 := h1.mpr (fun q => by have := q.mpr rfl; omega)
    omega
  · have h3 : ¬ (e / 2 ^ l ^^^ 1) % 2 = 1 := fun q => h1.mp q ⟨fun _ => rfl, fun _ => h⟩
    omega
theorem bit0_iff (x l : Nat) : x &&& 2 ^ l = 0 ↔ x % 2 ^ (l + 1) = x % 2 ^ l := by
  have hp := Nat.two_pow_pos l
  have e : x % 2 ^ (l + 1) = x % 2 ^ l ↔ x.testBit l = false := by
    rw [mod2, Nat.testBit_eq_decide_div_mod_eq]
    rcases Nat.mod_two_eq_zero_or_one (x / 2 ^ l) with h | h
    · rw [h]; simp
    · rw [h]; simp
  rw [e]
  constructor
  · intro h
    have h1 : (x &&& 2 ^ l).testBit l = false := by rw [h]; exact Nat.zero_testBit l
    rw [Nat.testBit_and, Nat.testBit_two_pow] at h1
    simpa using h1
  · intro h
    apply Nat.eq_of_testBit_eq
    intro i
    rw [Nat.testBit_and, Nat.testBit_two_pow, Nat.zero_testBit]
    by_cases hi : l = i
    · subst hi; rw [h]; rfl
    · simp [hi]
theorem rlo_mod (r0 : Int32) {l : Nat} (hl : l ≤ 30) : tn (r0 &&& (nI (2 ^ l) ^^^ (-1))) % 2 ^ (l + 1) = tn r0 % 2 ^ l := by
  have hp := Nat.two_pow_pos l
  have hle : 2 ^ l ≤ 2 ^ 30 := Nat.pow_le_pow_right (by omega) hl
  have e1 : tn (nI (2 ^ l) ^^^ (-1)) = 2 ^ 32 - 1 - 2 ^ l := by
    have h1 : tn (nI (2 ^ l)) = 2 ^ l := tn_nI (by omega)
    unfold tn at *
    rw [show nI (2 ^ l) ^^^ (-1) = ~~~ (nI (2 ^ l)) by rw [Int32.xor_neg_one], Int32.toBitVec_not, BitVec.toNat_not, h1]
  rw [tn_and, e1, Nat.and_mod_two_pow]
  have e2 : (2 ^ 32 - 1 - 2 ^ l) % 2 ^ (l + 1) = 2 ^ l - 1 := by
    have e3 : 2 ^ 32 = 2 ^ (l + 1) * 2 ^ (31 - l) := by rw [← Nat.pow_add]; congr 1; omega
    have e4 : 2 ^ (l + 1) = 2 * 2 ^ l := by rw [Nat.pow_succ]; omega
    obtain ⟨q, hq⟩ : ∃ q, 2 ^ (31 - l) = q + 1 := ⟨2 ^ (31 - l) - 1, by have := Nat.two_pow_pos (31 - l); omega⟩
    rw [hq, Nat.mul_add, Nat.mul_one] at e3
    have e5 : 2 ^ 32 - 1 - 2 ^ l = 2 ^ (l + 1) * q + (2 ^ l - 1) := by omega
    rw [e5, Nat.mul_add_mod, Nat.mod_eq_of_lt (by omega)]
  rw [e2, Nat.and_two_pow_sub_one_eq_mod, Nat.mod_mod_of_dvd _ (Nat.pow_dvd_pow 2 (by omega : l ≤ l + 1))]
theorem rhi_mod (r0 : Int32) {l : Nat} (hl : l ≤ 30) : tn (r0 ||| nI (2 ^ l)) % 2 ^ (l + 1) = tn r0 % 2 ^ l + 2 ^ l := by
  have hp := Nat.two_pow_pos l
  have hle : 2 ^ l ≤ 2 ^ 30 := Nat.pow_le_pow_right (by omega) hl
  have hlt : tn r0 % 2 ^ l < 2 ^ l := Nat.mod_lt _ hp
  rw [tn_or, tn_nI (by omega), Nat.or_mod_two_pow, Nat.mod_eq_of_lt (a := 2 ^ l) (Nat.pow_lt_pow_right (by omega) (by omega))]
  have e0 : tn r0 % 2 ^ l ||| 2 ^ l = tn r0 % 2 ^ l + 2 ^ l := by
    have h5 := Nat.two_pow_add_eq_or_of_lt hlt 1
    rw [Nat.mul_one] at h5
    rw [Nat.or_comm, ← h5, Nat.add_comm]
  rcases mod2c (tn r0) l with h | h
  · rw [h, e0]
  · rw [h, ← e0, Nat.or_assoc, Nat.or_self]
theorem inB_mod {l e e' : Nat} (h : e % 2 ^ l = e' % 2 ^ l) : inB l e = inB l e' := by
  funext q
  unfold inB
  rw [h]
def Vw (d n : Nat) (KK VV : Nat → Int32) (L H R : Nat → Nat) (BI : Nat → Nat → Nat) (BD : Nat → Nat → Nat → Int32) (P : Nat → Prop) : Prop :=
  (∀ e, e < 2 ^ d → P (R e) ∧ L e ≤ d ∧ BI 0 (R e) = L e ∧ BI 4 (R e) = H e ∧ BI 3 (R e) ≤ 15 ∧ (kvl (BD 0 (R e)) (BD 1 (R e)) (BI 3 (R e))).Perm ((kvl KK VV n).filter (inB (L e) e))) ∧
  (∀ e e', e < 2 ^ d → e' < 2 ^ d → (R e = R e' ↔ e % 2 ^ L e = e' % 2 ^ L e))
section VWS
variable {d n n' : Nat} {KK VV KK' VV' : Nat → Int32} {L H R L' H' R' : Nat → Nat} {BI BI' : Nat → Nat → Nat} {BD BD' : Nat → Nat → Nat → Int32} {P P' : Nat → Prop}
theorem Vw.cong (h : Vw d n KK VV L H R BI BD P) {e e' : Nat} (he : e < 2 ^ d) (he' : e' < 2 ^ d) (hc : e % 2 ^ L e = e' % 2 ^ L e) : R e = R e' ∧ L e = L e' ∧ H e = H e' := by
  have h1 := (h.2 e e' he he').mpr hc
  obtain ⟨-, -, a1, a2, -⟩ := h.1 e he
  obtain ⟨-, -, b1, b2, -⟩ := h.1 e' he'
  exact ⟨h1, by rw [← a1, ← b1, h1], by rw [← a2, ← b2, h1]⟩
theorem Vw.frame (h : Vw d n KK VV L H R BI BD P) (hR : ∀ e, e < 2 ^ d → R' e = R e) (hL : ∀ e, e < 2 ^ d → L' e = L e) (hH : ∀ e, e < 2 ^ d → H' e = H e) (hb : ∀ e, e < 2 ^ d → ∀ j, BI' j (R e) = BI j (R e) ∧ BD' j (R e) = BD j (R e)) (hP : ∀ q, P q → P' q) (hk : kvl KK' VV' n' = kvl KK VV n) : Vw d n' KK' VV' L' H' R' BI' BD' P' := by
  refine ⟨fun e he => ?_, fun e e' he he' => ?_⟩
  · obtain ⟨a1, a2, a3, a4, a5, a6⟩ := h.1 e he
    have hb1 := hb e he
    rw [hR e he, hL e he, hH e he, (hb1 0).1, (hb1 4).1, (hb1 3).1, (hb1 0).2, (hb1 1).2, hk]
    exact ⟨hP _ a1, a2, a3, a4, a5, a6⟩
  · rw [hR e he, hR e' he', hL e he]
    exact h.2 e e' he he'
theorem Vw.put {e0 c : Nat} (h : Vw d n KK VV L H R BI BD P) (he0 : e0 < 2 ^ d) (hR' : ∀ e, e < 2 ^ d → R' e = if e % 2 ^ L e0 = e0 % 2 ^ L e0 then c else R e) (hH' : ∀ e, e < 2 ^ d → H' e = if e % 2 ^ L e0 = e0 % 2 ^ L e0 then 0 else H e) (hL' : ∀ e, e < 2 ^ d → L' e = L e)
    (hc : c = R e0 ∨ ∀ e, e < 2 ^ d → R e ≠ c) (hb : ∀ e, e < 2 ^ d → ¬ e % 2 ^ L e0 = e0 % 2 ^ L e0 → ∀ j, BI' j (R e) = BI j (R e) ∧ BD' j (R e) = BD j (R e)) (hPP : ∀ q, P q → P' q) (hPc : P' c) (hI : BI' 0 c = L e0 ∧ BI' 4 c = 0 ∧ BI' 3 c ≤ 15)
    (hp : (kvl (BD' 0 c) (BD' 1 c) (BI' 3 c)).Perm ((kvl KK' VV' n').filter (inB (L e0) e0))) (ho : ∀ e, e < 2 ^ d → ¬ e % 2 ^ L e0 = e0 % 2 ^ L e0 → ((kvl KK VV n).filter (inB (L e) e)).Perm ((kvl KK' VV' n').filter (inB (L e) e))) : Vw d n' KK' VV' L' H' R' BI' BD' P' := by
  have hin : ∀ e, e < 2 ^ d → e % 2 ^ L e0 = e0 % 2 ^ L e0 → L e = L e0 := fun e he q => (h.cong he0 he q.symm).2.1.symm
  refine ⟨fun e he => ?_, fun e e' he he' => ?_⟩
  · obtain ⟨a1, a2, a3, a4, a5, a6⟩ := h.1 e he
    rw [hR' e he, hH' e he, hL' e he]
    by_cases hm : e % 2 ^ L e0 = e0 % 2 ^ L e0
    · rw [if_pos hm, if_pos hm]
      have hl := hin e he hm
      rw [hl]
      exact ⟨hPc, by rw [← hl]; exact a2, hI.1, hI.2.1, hI.2.2, by rw [inB_mod hm]; exact hp⟩
    · rw [if_neg hm, if_neg hm]
      have hb1 := hb e he hm
      rw [(hb1 0).1, (hb1 4).1, (hb1 3).1, (hb1 0).2, (hb1 1).2]
      exact ⟨hPP _ a1, a2, a3, a4, a5, a6.trans (ho e he hm)⟩
  · rw [hR' e he, hR' e' he', hL' e he]
    by_cases hm : e % 2 ^ L e0 = e0 % 2 ^ L e0
    · rw [if_pos hm, hin e he hm]
      by_cases hm' : e' % 2 ^ L e0 = e0 % 2 ^ L e0
      · rw [if_pos hm']
        exact ⟨fun _ => hm.trans hm'.symm, fun _ => rfl⟩
      · rw [if_neg hm']
        constructor
        · intro q
          rcases hc with hc | hc
          · exact absurd ((h.2 e0 e' he0 he').mp (hc.symm.trans q)).symm hm'
          · exact absurd q.symm (hc e' he')
        · intro q; exact absurd (q.symm.trans hm) hm'
    · rw [if_neg hm]
      by_cases hm' : e' % 2 ^ L e0 = e0 % 2 ^ L e0
      · rw [if_pos hm']
        constructor
        · intro q
          rcases hc with hc | hc
          · have q2 := q.trans hc
            have q3 := (h.2 e e0 he he0).mp q2
            have q4 := (h.cong he he0 q3).2.1
            rw [q4] at q3
            exact absurd q3 hm
          · exact absurd q (hc e he)
        · intro q
          have q4 := (h.cong he he' q).2.1
          rw [q4, hin e' he' hm'] at q
          exact absurd (q.trans hm') hm
      · rw [if_neg hm']
        exact h.2 e e' he he'
theorem Vw.split {e0 l lo hi : Nat} (h : Vw d n KK VV L H R BI BD P) (he0 : e0 < 2 ^ d) (hl : L e0 = l) (hld : l < d) (hR' : ∀ e, e < 2 ^ d → R' e = if e % 2 ^ (l + 1) = e0 % 2 ^ l + 2 ^ l then hi else if e % 2 ^ (l + 1) = e0 % 2 ^ l then lo else R e) (hL' : ∀ e, e < 2 ^ d → L' e = if e % 2 ^ l = e0 % 2 ^ l then l + 1 else L e) (hH' : ∀ e, e < 2 ^ d → H' e = if e % 2 ^ l = e0 % 2 ^ l then 0 else H e)
    (hlo : ∀ e, e < 2 ^ d → R e ≠ lo) (hhi : ∀ e, e < 2 ^ d → R e ≠ hi) (hne : lo ≠ hi) (hb : ∀ e, e < 2 ^ d → ∀ j, BI' j (R e) = BI j (R e) ∧ BD' j (R e) = BD j (R e)) (hPP : ∀ q, P q → P' q) (hPl : P' lo) (hPh : P' hi) (hIl : BI' 0 lo = l + 1 ∧ BI' 4 lo = 0 ∧ BI' 3 lo ≤ 15) (hIh : BI' 0 hi = l + 1 ∧ BI' 4 hi = 0 ∧ BI' 3 hi ≤ 15)
    (hpl : (kvl (BD' 0 lo) (BD' 1 lo) (BI' 3 lo)).Perm ((kvl KK VV n).filter (inB (l + 1) (e0 % 2 ^ l)))) (hph : (kvl (BD' 0 hi) (BD' 1 hi) (BI' 3 hi)).Perm ((kvl KK VV n).filter (inB (l + 1) (e0 % 2 ^ l + 2 ^ l)))) : Vw d n KK VV L' H' R' BI' BD' P' := by
  subst hl
  generalize hlv : L e0 = l at *
  have hpw := Nat.two_pow_pos l
  have hlt : e0 % 2 ^ l < 2 ^ l := Nat.mod_lt _ hpw
  have hpe : 2 ^ (l + 1) = 2 * 2 ^ l := by rw [Nat.pow_succ]; omega
  have hin : ∀ e, e < 2 ^ d → e % 2 ^ l = e0 % 2 ^ l → L e = l := fun e he q => by
    have := (h.cong he0 he (by rw [hlv]; exact q.symm)).2.1
    omega
  have hiff : ∀ e, (e % 2 ^ (l + 1) = e0 % 2 ^ l ∨ e % 2 ^ (l + 1) = e0 % 2 ^ l + 2 ^ l) ↔ e % 2 ^ l = e0 % 2 ^ l := by
    intro e
    have h1 : (e % 2 ^ (l + 1)) % 2 ^ l = e % 2 ^ l := Nat.mod_mod_of_dvd e (Nat.pow_dvd_pow 2 (by omega))
    constructor
    · rintro (q | q)
      · rw [← h1, q, Nat.mod_eq_of_lt hlt]
      · rw [← h1, q, Nat.add_mod_right, Nat.mod_eq_of_lt hlt]
    · intro q
      rcases mod2c e l with h2 | h2
      · left; rw [h2, q]
      · right; rw [h2, q]
  have hRin : ∀ e, e < 2 ^ d → e % 2 ^ l = e0 % 2 ^ l → (e % 2 ^ (l + 1) = e0 % 2 ^ l ∧ R' e = lo) ∨ (e % 2 ^ (l + 1) = e0 % 2 ^ l + 2 ^ l ∧ R' e = hi) := fun e he q => by
    rcases (hiff e).mpr q with h1 | h1
    · left; exact ⟨h1, by rw [hR' e he, if_neg (by omega), if_pos h1]⟩
    · right; exact ⟨h1, by rw [hR' e he, if_pos h1]⟩
  have hRout : ∀ e, e < 2 ^ d → ¬ e % 2 ^ l = e0 % 2 ^ l → R' e = R e := fun e he q => by
    rw [hR' e he, if_neg (fun z => q ((hiff e).mp (Or.inr z))), if_neg (fun z => q ((hiff e).mp (Or.inl z)))]
  refine ⟨fun e he => ?_, fun e e' he he' => ?_⟩
  · obtain ⟨a1, a2, a3, a4, a5, a6⟩ := h.1 e he
    rw [hH' e he, hL' e he]
    by_cases hm : e % 2 ^ l = e0 % 2 ^ l
    · rw [if_pos hm, if_pos hm]
      rcases hRin e he hm with ⟨q1, q2⟩ | ⟨q1, q2⟩
      · rw [q2]
        exact ⟨hPl, by omega, hIl.1, hIl.2.1, hIl.2.2, by rw [inB_mod (l := l + 1) (e := e) (e' := e0 % 2 ^ l) (q1.trans (Nat.mod_eq_of_lt (by omega)).symm)]; exact hpl⟩
      · rw [q2]
        exact ⟨hPh, by omega, hIh.1, hIh.2.1, hIh.2.2, by rw [inB_mod (l := l + 1) (e := e) (e' := e0 % 2 ^ l + 2 ^ l) (q1.trans (Nat.mod_eq_of_lt (by omega)).symm)]; exact hph⟩
    · rw [if_neg hm, if_neg hm, hRout e he hm]
      have hb1 := hb e he
      rw [(hb1 0).1, (hb1 4).1, (hb1 3).1, (hb1 0).2, (hb1 1).2]
      exact ⟨hPP _ a1, a2, a3, a4, a5, a6⟩
  · rw [hL' e he]
    by_cases hm : e % 2 ^ l = e0 % 2 ^ l
    · rw [if_pos hm]
      by_cases hm' : e' % 2 ^ l = e0 % 2 ^ l
      · rcases hRin e he hm with ⟨q1, q2⟩ | ⟨q1, q2⟩ <;> rcases hRin e' he' hm' with ⟨p1, p2⟩ | ⟨p1, p2⟩ <;> rw [q2, p2, q1, p1]
        · simp
        · exact ⟨fun z => absurd z hne, fun z => absurd z (by omega)⟩
        · exact ⟨fun z => absurd z.symm hne, fun z => absurd z (by omega)⟩
        · simp
      · rw [hRout e' he' hm']
        constructor
        · intro z
          rcases hRin e he hm with ⟨q1, q2⟩ | ⟨q1, q2⟩
          · exact absurd (z.symm.trans q2) (hlo e' he')
          · exact absurd (z.symm.trans q2) (hhi e' he')
        · intro z
          exact absurd ((modle (by omega : l ≤ l + 1) z).symm.trans hm) hm'
    · rw [if_neg hm, hRout e he hm]
      by_cases hm' : e' % 2 ^ l = e0 % 2 ^ l
      · constructor
        · intro z
          rcases hRin e' he' hm' with ⟨q1, q2⟩ | ⟨q1, q2⟩
          · exact absurd (z.trans q2) (hlo e he)
          · exact absurd (z.trans q2) (hhi e he)
        · intro z
          have q4 := (h.cong he he' z).2.1
          rw [q4, hin e' he' hm'] at z
          exact absurd (z.trans hm') hm
      · rw [hRout e' he' hm']
        exact h.2 e e' he he'
theorem Vw.merge {e0 e1 l c : Nat} (h : Vw d n KK VV L H R BI BD P) (he0 : e0 < 2 ^ d) (hl : L e0 = l + 1) (he1 : e1 < 2 ^ d) (hl1 : L e1 = l + 1) (hbud : e1 % 2 ^ (l + 1) = e0 % 2 ^ l + 2 ^ l * (1 - e0 / 2 ^ l % 2)) (hemp : BI 3 (R e0) = 0) (hR' : ∀ e, e < 2 ^ d → R' e = if e % 2 ^ l = e0 % 2 ^ l then c else R e) (hL' : ∀ e, e < 2 ^ d → L' e = if e % 2 ^ l = e0 % 2 ^ l then l else L e) (hH' : ∀ e, e < 2 ^ d → H' e = if e % 2 ^ l = e0 % 2 ^ l then 0 else H e)
    (hc : ∀ e, e < 2 ^ d → R e ≠ c) (hb : ∀ e, e < 2 ^ d → ∀ j, BI' j (R e) = BI j (R e) ∧ BD' j (R e) = BD j (R e)) (hPP : ∀ q, P q → P' q) (hPc : P' c) (hI : BI' 0 c = l ∧ BI' 4 c = 0 ∧ BI' 3 c = BI 3 (R e1)) (hk : kvl (BD' 0 c) (BD' 1 c) (BI' 3 c) = kvl (BD 0 (R e1)) (BD 1 (R e1)) (BI 3 (R e1))) : Vw d n KK VV L' H' R' BI' BD' P' := by
  have hpw := Nat.two_pow_pos l
  have e01 : e0 % 2 ^ (l + 1) = e0 % 2 ^ l + 2 ^ l * (e0 / 2 ^ l % 2) := mod2 e0 l
  have hcase : ∀ x, x % 2 ^ l = e0 % 2 ^ l → x % 2 ^ (l + 1) = e0 % 2 ^ (l + 1) ∨ x % 2 ^ (l + 1) = e1 % 2 ^ (l + 1) := by
    intro x q
    rw [hbud, e01]
    rcases mod2c x l with h2 | h2 <;> rcases Nat.mod_two_eq_zero_or_one (e0 / 2 ^ l) with h3 | h3 <;> rw [h3, h2, q] <;> simp
  have e1l : e1 % 2 ^ l = e0 % 2 ^ l := by
    rw [← Nat.mod_mod_of_dvd e1 (Nat.pow_dvd_pow 2 (by omega : l ≤ l + 1)), hbud, Nat.add_mul_mod_self_left, Nat.mod_mod]
  have hin : ∀ e, e < 2 ^ d → e % 2 ^ l = e0 % 2 ^ l → L e = l + 1 := fun e he q => by
    rcases hcase e q with h1 | h1
    · have := (h.cong he0 he (by rw [hl]; exact h1.symm)).2.1
      omega
    · have := (h.cong he1 he (by rw [hl1]; exact h1.symm)).2.1
      omega
  have hnil : (kvl KK VV n).filter (inB (l + 1) e0) = [] := by
    have := (h.1 e0 he0).2.2.2.2.2
    rw [hemp, hl] at this
    exact (List.Perm.nil_eq this).symm
  have hfil : (kvl KK VV n).filter (inB l e0) = (kvl KK VV n).filter (inB (l + 1) e1) := by
    refine List.filter_congr fun q hq => ?_
    unfold inB
    by_cases h1 : hx q.1 % 2 ^ (l + 1) = e1 % 2 ^ (l + 1)
    · rw [decide_eq_true h1, decide_eq_true ((modle (by omega : l ≤ l + 1) h1).trans e1l)]
    · rw [decide_eq_false h1, decide_eq_false]
      intro h2
      rcases hcase _ h2 with h3 | h3
      · have h4 : q ∈ (kvl KK VV n).filter (inB (l + 1) e0) := List.mem_filter.mpr ⟨hq, by unfold inB; exact decide_eq_true h3⟩
        rw [hnil] at h4
        cases h4
      · exact h1 h3
  refine ⟨fun e he => ?_, fun e e' he he' => ?_⟩
  · obtain ⟨a1, a2, a3, a4, a5, a6⟩ := h.1 e he
    rw [hH' e he, hL' e he, hR' e he]
    by_cases hm : e % 2 ^ l = e0 % 2 ^ l
    · rw [if_pos hm, if_pos hm, if_pos hm]
      have h2 := h.1 e1 he1
      refine ⟨hPc, by have := hin e he hm; omega, hI.1, hI.2.1, by rw [hI.2.2]; exact h2.2.2.2.2.1, ?_⟩
      rw [hk, inB_mod hm, hfil, ← hl1]
      exact h2.2.2.2.2.2
    · rw [if_neg hm, if_neg hm, if_neg hm]
      have hb1 := hb e he
      rw [(hb1 0).1, (hb1 4).1, (hb1 3).1, (hb1 0).2, (hb1 1).2]
      exact ⟨hPP _ a1, a2, a3, a4, a5, a6⟩
  · rw [hL' e he, hR' e he, hR' e' he']
    by_cases hm : e % 2 ^ l = e0 % 2 ^ l
    · rw [if_pos hm, if_pos hm]
      by_cases hm' : e' % 2 ^ l = e0 % 2 ^ l
      · rw [if_pos hm']
        exact ⟨fun _ => hm.trans hm'.symm, fun _ => rfl⟩
      · rw [if_neg hm']
        exact ⟨fun z => absurd z.symm (hc e' he'), fun z => absurd (z.symm.trans hm) hm'⟩
    · rw [if_neg hm, if_neg hm]
      by_cases hm' : e' % 2 ^ l = e0 % 2 ^ l
      · rw [if_pos hm']
        constructor
        · intro z; exact absurd z (hc e he)
        · intro z
          have q4 := (h.cong he he' z).2.1
          rw [q4, hin e' he' hm'] at z
          exact absurd ((modle (by omega : l ≤ l + 1) z).trans hm') hm
      · rw [if_neg hm']
        exact h.2 e e' he he'
theorem dblR_mod {X : Nat → Nat} {e : Nat} (he : e < 2 ^ (d + 1)) : dblR X (2 ^ d) (2 ^ d) e = X (e % 2 ^ d) := by
  have hp := Nat.two_pow_pos d
  have he2 : e < 2 ^ d + 2 ^ d := by rw [Nat.pow_succ] at he; omega
  unfold dblR
  by_cases h : 2 ^ d ≤ e
  · rw [if_pos ⟨h, he2⟩, Nat.mod_eq_sub_mod h, Nat.mod_eq_of_lt (by omega)]
  · rw [if_neg (fun q => h q.1), Nat.mod_eq_of_lt (by omega)]
theorem Vw.dbl (h : Vw d n KK VV L H R BI BD P) (hL' : ∀ e, e < 2 ^ (d + 1) → L' e = L (e % 2 ^ d)) (hH' : ∀ e, e < 2 ^ (d + 1) → H' e = H (e % 2 ^ d)) (hR' : ∀ e, e < 2 ^ (d + 1) → R' e = R (e % 2 ^ d)) : Vw (d + 1) n KK VV L' H' R' BI BD P := by
  have hp := Nat.two_pow_pos d
  have hm : ∀ x l, l ≤ d → (x % 2 ^ d) % 2 ^ l = x % 2 ^ l := fun x l hl => Nat.mod_mod_of_dvd x (Nat.pow_dvd_pow 2 hl)
  refine ⟨fun e he => ?_, fun e e' he he' => ?_⟩
  · obtain ⟨a1, a2, a3, a4, a5, a6⟩ := h.1 (e % 2 ^ d) (Nat.mod_lt _ hp)
    rw [hL' e he, hH' e he, hR' e he]
    exact ⟨a1, by omega, a3, a4, a5, by rw [← inB_mod (hm e _ a2)]; exact a6⟩
  · obtain ⟨a1, a2, -⟩ := h.1 (e % 2 ^ d) (Nat.mod_lt _ hp)
    rw [hR' e he, hR' e' he', hL' e he, h.2 _ _ (Nat.mod_lt _ hp) (Nat.mod_lt _ hp), hm _ _ a2, hm _ _ a2]
theorem Vw.halve (h : Vw (d + 1) n KK VV L H R BI BD P) (hL : ∀ e, e < 2 ^ (d + 1) → L e ≤ d) : Vw d n KK VV L H R BI BD P := by
  have hp : 2 ^ d ≤ 2 ^ (d + 1) := Nat.pow_le_pow_right (by omega) (by omega)
  refine ⟨fun e he => ?_, fun e e' he he' => h.2 e e' (by omega) (by omega)⟩
  obtain ⟨a1, a2, a3⟩ := h.1 e (by omega)
  exact ⟨a1, hL e (by omega), a3⟩
end VWS
/-! how many buckets -/
theorem cntF_congr {L L' : Nat → Nat} : ∀ {E : Nat}, (∀ j, j < E → (j % 2 ^ L j = j ↔ j % 2 ^ L' j = j)) → cntF L E = cntF L' E
  | 0, _ => rfl
  | E + 1, h => by
    have ih := cntF_congr (E := E) (fun j hj => h j (by omega))
    have h1 := h E (by omega)
    rw [cntF, cntF, ih]
    by_cases hq : E % 2 ^ L E = E
    · rw [if_pos hq, if_pos (h1.mp hq)]
    · rw [if_neg hq, if_neg (fun z => hq (h1.mpr z))]
theorem cntF_one {L L' : Nat → Nat} {j1 : Nat} (hn : ¬ j1 % 2 ^ L j1 = j1) (hy : j1 % 2 ^ L' j1 = j1) : ∀ {E : Nat}, j1 < E → (∀ j, j < E → j ≠ j1 → (j % 2 ^ L j = j ↔ j % 2 ^ L' j = j)) → cntF L' E = cntF L E + 1
  | 0, h, _ => absurd h (by omega)
  | E + 1, h, hc => by
    by_cases hj : j1 = E
    · subst hj
      rw [cntF, cntF, if_neg hn, if_pos hy, cntF_congr (L := L) (L' := L') (E := j1) (fun j hj => hc j (by omega) (by omega))]
    · have ih := cntF_one hn hy (E := E) (by omega) (fun j hj => hc j (by omega))
      have h1 := hc E (by omega) (fun z => hj z.symm)
      rw [cntF, cntF, ih]
      by_cases hq : E % 2 ^ L E = E
      · rw [if_pos hq, if_pos (h1.mp hq)]
      · rw [if_neg hq, if_neg (fun z => hq (h1.mpr z))]
theorem cntF_none {L : Nat → Nat} {E : Nat} : ∀ {m : Nat}, (∀ j, E ≤ j → j < E + m → ¬ j % 2 ^ L j = j) → cntF L (E + m) = cntF L E
  | 0, _ => rfl
  | m + 1, h => by
    have ih := cntF_none (L := L) (E := E) (m := m) (fun j h1 h2 => h j h1 (by omega))
    rw [← Nat.add_assoc, cntF, if_neg (h (E + m) (by omega) (by omega)), ih]
theorem cntF_half {L : Nat → Nat} {d : Nat} (hL : ∀ e, e < 2 ^ (d + 1) → L e ≤ d) : cntF L (2 ^ (d + 1)) = cntF L (2 ^ d) := by
  have hpe : 2 ^ (d + 1) = 2 ^ d + 2 ^ d := by rw [Nat.pow_succ]; omega
  rw [hpe] at hL ⊢
  refine cntF_none fun j h1 h2 => ?_
  have h3 := hL j h2
  have h4 : j % 2 ^ L j < 2 ^ L j := Nat.mod_lt _ (Nat.two_pow_pos _)
  have h5 : 2 ^ L j ≤ 2 ^ d := Nat.pow_le_pow_right (by omega) h3
  omega
theorem cntF_dbl {L L' : Nat → Nat} {d : Nat} (hL : ∀ e, e < 2 ^ d → L e ≤ d) (hL' : ∀ e, e < 2 ^ (d + 1) → L' e = L (e % 2 ^ d)) : cntF L' (2 ^ (d + 1)) = cntF L (2 ^ d) := by
  have hp := Nat.two_pow_pos d
  have hpe : 2 ^ (d + 1) = 2 ^ d + 2 ^ d := by rw [Nat.pow_succ]; omega
  rw [cntF_half (fun e he => by rw [hL' e he]; exact hL _ (Nat.mod_lt _ hp))]
  refine cntF_congr fun j hj => ?_
  rw [hL' j (by omega), Nat.mod_eq_of_lt hj]
theorem cntF_split {L L' : Nat → Nat} {d e0 l : Nat} (hld : l < d) (hin : ∀ e, e < 2 ^ d → e % 2 ^ l = e0 % 2 ^ l → L e = l) (hL' : ∀ e, e < 2 ^ d → L' e = if e % 2 ^ l = e0 % 2 ^ l then l + 1 else L e) : cntF L' (2 ^ d) = cntF L (2 ^ d) + 1 := by
  have hpw := Nat.two_pow_pos l
  have hlt : e0 % 2 ^ l < 2 ^ l := Nat.mod_lt _ hpw
  have hpe : 2 ^ (l + 1) = 2 * 2 ^ l := by rw [Nat.pow_succ]; omega
  have hle : 2 ^ (l + 1) ≤ 2 ^ d := Nat.pow_le_pow_right (by omega) hld
  have hj : (e0 % 2 ^ l + 2 ^ l) % 2 ^ l = e0 % 2 ^ l := by rw [Nat.add_mod_right, Nat.mod_eq_of_lt hlt]
  refine cntF_one (j1 := e0 % 2 ^ l + 2 ^ l) ?_ ?_ (by omega) ?_
  · rw [hin _ (by omega) hj, hj]; omega
  · rw [hL' _ (by omega), if_pos hj, Nat.mod_eq_of_lt (by omega)]
  · intro j h1 h2
    rw [hL' j h1]
    by_cases hm : j % 2 ^ l = e0 % 2 ^ l
    · rw [if_pos hm, hin j h1 hm]
      constructor
      · intro q
        rw [Nat.mod_eq_of_lt]
        omega
      · intro q
        rcases mod2c j l with h3 | h3
        · omega
        · omega
    · rw [if_neg hm]
theorem cntF_merge {L L' : Nat → Nat} {d e0 l : Nat} (hld : l < d) (hin : ∀ e, e < 2 ^ d → e % 2 ^ l = e0 % 2 ^ l → L e = l + 1) (hL' : ∀ e, e < 2 ^ d → L' e = if e % 2 ^ l = e0 % 2 ^ l then l else L e) : cntF L (2 ^ d) = cntF L' (2 ^ d) + 1 := by
  refine cntF_split (L := L') (L' := L) (d := d) (e0 := e0) (l := l) hld (fun e he q => by rw [hL' e he, if_pos q]) (fun e he => ?_)
  by_cases hm : e % 2 ^ l = e0 % 2 ^ l
  · rw [if_pos hm, hin e he hm]
  · rw [if_neg hm, hL' e he, if_neg hm]
theorem cntC_congr {L L' H H' : Nat → Nat} : ∀ {E : Nat}, (∀ j, j < E → L j = L' j ∧ H j = H' j) → cntC L H E = cntC L' H' E
  | 0, _ => rfl
  | E + 1, h => by
    have ih := cntC_congr (E := E) (fun j hj => h j (by omega))
    have h1 := h E (by omega)
    rw [cntC, cntC, ih, h1.1, h1.2]
/-- homes -/
def LH (B : Nat) (Z0 : Nat → Bool) (d : Nat) (H R : Nat → Nat) : Prop :=
  (∀ e, e < 2 ^ d → H e ≠ 0 → 2 ≤ H e ∧ H e < B ∧ Z0 (H e) = true) ∧ (∀ e e', e < 2 ^ d → e' < 2 ^ d → H e = H e' → H e ≠ 0 → R e = R e')
theorem LH.zero {B : Nat} {Z0 : Nat → Bool} {d : Nat} {H R H' R' : Nat → Nat} (h : LH B Z0 d H R) (hz : ∀ e, e < 2 ^ d → H' e = 0 ∨ (H' e = H e ∧ R' e = R e)) : LH B Z0 d H' R' := by
  refine ⟨fun e he hn => ?_, fun e e' he he' hq hn => ?_⟩
  · rcases hz e he with q | ⟨q, -⟩
    · exact absurd q hn
    · rw [q] at hn ⊢; exact h.1 e he hn
  · rcases hz e he with q | ⟨q, q2⟩
    · exact absurd q hn
    · rcases hz e' he' with z | ⟨z, z2⟩
      · rw [z] at hq; exact absurd hq hn
      · rw [q, z] at hq
        rw [q] at hn
        rw [q2, z2]
        exact h.2 e e' he he' hq hn
theorem LH.dbl {B : Nat} {Z0 : Nat → Bool} {d : Nat} {H R H' R' : Nat → Nat} (h : LH B Z0 d H R) (hH' : ∀ e, e < 2 ^ (d + 1) → H' e = H (e % 2 ^ d)) (hR' : ∀ e, e < 2 ^ (d + 1) → R' e = R (e % 2 ^ d)) : LH B Z0 (d + 1) H' R' := by
  have hp := Nat.two_pow_pos d
  refine ⟨fun e he hn => ?_, fun e e' he he' hq hn => ?_⟩
  · rw [hH' e he] at hn ⊢; exact h.1 _ (Nat.mod_lt _ hp) hn
  · rw [hH' e he] at hn
    rw [hH' e he, hH' e' he'] at hq
    rw [hR' e he, hR' e' he']
    exact h.2 _ _ (Nat.mod_lt _ hp) (Nat.mod_lt _ hp) hq hn
theorem LH.halve {B : Nat} {Z0 : Nat → Bool} {d : Nat} {H R : Nat → Nat} (h : LH B Z0 (d + 1) H R) : LH B Z0 d H R := by
  have hp : 2 ^ d ≤ 2 ^ (d + 1) := Nat.pow_le_pow_right (by omega) (by omega)
  exact ⟨fun e he => h.1 e (by omega), fun e e' he he' => h.2 e e' (by omega) (by omega)⟩
