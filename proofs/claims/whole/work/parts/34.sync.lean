/-! a sync on both sides -/
theorem cntE_congr {S S' : Nat → Bool} : ∀ {n : Nat}, (∀ b, 2 ≤ b → b < n + 2 → S b = S' b) → cntE S n = cntE S' n
  | 0, _ => rfl
  | n + 1, h => by
    have ih := cntE_congr (n := n) (fun b h1 h2 => h b h1 (by omega))
    rw [cntE, cntE, ih, h (n + 2) (by omega) (by omega)]
theorem cntE_pos {S : Nat → Bool} : ∀ {n : Nat}, 0 < cntE S n → ∃ b, 2 ≤ b ∧ b < n + 2 ∧ S b = false
  | 0, h => absurd h (by unfold cntE; omega)
  | n + 1, h => by
    rw [cntE] at h
    by_cases hs : S (n + 2) = true
    · rw [if_pos hs] at h
      obtain ⟨b, h1, h2, h3⟩ := cntE_pos h
      exact ⟨b, h1, by omega, h3⟩
    · exact ⟨n + 2, by omega, by omega, by simpa using hs⟩
theorem cntE_up {S : Nat → Bool} {b : Nat} (hb : 2 ≤ b) (hs : S b = false) : ∀ {n : Nat}, b < n + 2 → cntE (va_up S b true) n + 1 = cntE S n
  | 0, h => absurd h (by omega)
  | n + 1, h => by
    rw [cntE, cntE]
    by_cases hbn : b = n + 2
    · have h1 : cntE (va_up S b true) n = cntE S n := cntE_congr fun q _ h2 => va_up_ne _ _ (by omega)
      rw [h1, ← hbn, va_up_self, if_pos rfl, if_neg (by rw [hs]; decide)]
    · have ih := cntE_up hb hs (n := n) (by omega)
      rw [va_up_ne _ _ (fun z => hbn z.symm)]
      by_cases hq : S (n + 2) = true
      · rw [if_pos hq, if_pos hq]; exact ih
      · rw [if_neg hq, if_neg hq]; omega
theorem lfr_eq {S T T' : Nat → Bool} {f0 : Nat} (hS : S f0 = false) (hT : T f0 = false) : ∀ (n n' b : Nat), b ≤ f0 → f0 ≤ b + n → f0 ≤ b + n' → (∀ x, b ≤ x → x ≤ f0 → (T' x = true ↔ S x = true ∨ T x = true)) → lff T' n' b = lfr S T n b ∧ b ≤ lfr S T n b ∧ lfr S T n b ≤ f0 ∧ S (lfr S T n b) = false ∧ T (lfr S T n b) = false
  | 0, n', b, h1, h2, h3, h4 => by
    have hb : b = f0 := by omega
    subst hb
    have hn : ¬ T' b = true := fun q => by
      have := (h4 b (Nat.le_refl _) (Nat.le_refl _)).mp q
      rw [hS, hT] at this
      simp at this
    refine ⟨?_, Nat.le_refl _, Nat.le_refl _, hS, hT⟩
    cases n' with
    | zero => rfl
    | succ n' => rw [lff, if_neg hn]; rfl
  | n + 1, n', b, h1, h2, h3, h4 => by
    have hb4 := h4 b (Nat.le_refl _) h1
    by_cases hq : S b = true ∨ T b = true
    · have hbf : b ≠ f0 := fun z => by
        subst z
        rw [hS, hT] at hq
        simp at hq
      obtain ⟨n1, rfl⟩ : ∃ n1, n' = n1 + 1 := ⟨n' - 1, by omega⟩
      rw [lfr, if_pos hq, lff, if_pos (hb4.mpr hq)]
      have ih := lfr_eq (T' := T') hS hT n n1 (b + 1) (by omega) (by omega) (by omega) (fun x hx1 hx2 => h4 x (by omega) hx2)
      exact ⟨ih.1, by omega, ih.2.2.1, ih.2.2.2.1, ih.2.2.2.2⟩
    · have hs : S b = false := by
        cases hz : S b with
        | false => rfl
        | true => exact absurd (Or.inl hz) hq
      have ht : T b = false := by
        cases hz : T b with
        | false => rfl
        | true => exact absurd (Or.inr hz) hq
      rw [lfr, if_neg hq]
      refine ⟨?_, Nat.le_refl _, h1, hs, ht⟩
      cases n' with
      | zero => rfl
      | succ n' => rw [lff, if_neg (fun q => hq (hb4.mp q))]
/-- n writes -/
def wbI (A : Nat → Nat) : Nat → (Nat → Nat)
  | 0 => A
  | n + 1 => wbA (wbI A n)
theorem wbI_val {A : Nat → Nat} (h8 : A 8 = 0) : ∀ n, (wbI A n 7 = A 7 - n) ∧ (wbI A n 8 = if 0 < A 7 ∧ A 7 ≤ n then 1 else 0) ∧ (wbI A n 6 = if 0 < A 7 ∧ A 7 ≤ n then A 6 + A 7 - 1 else A 6 + n) ∧ (∀ j, j < 6 → wbI A n j = A j)
  | 0 => ⟨rfl, by rw [if_neg (by omega)]; exact h8, by rw [if_neg (by omega)]; rfl, fun j _ => rfl⟩
  | n + 1 => by
    obtain ⟨h1, h2, h3, h4⟩ := wbI_val h8 n
    have e7 : wbI A (n + 1) 7 = wbI A n 7 - 1 := rfl
    have e8 : wbI A (n + 1) 8 = if wbI A n 7 = 1 then 1 else wbI A n 8 := rfl
    have e6 : wbI A (n + 1) 6 = if wbI A n 7 = 1 ∨ wbI A n 8 = 1 then wbI A n 6 else wbI A n 6 + 1 := rfl
    refine ⟨by rw [e7, h1]; omega, ?_, ?_, fun j hj => ?_⟩
    · rw [e8, h1, h2]
      by_cases q : 0 < A 7 ∧ A 7 ≤ n
      · rw [if_pos q, if_pos (show 0 < A 7 ∧ A 7 ≤ n + 1 by omega)]; split <;> rfl
      · rw [if_neg q]
        by_cases q2 : A 7 = n + 1
        · rw [if_pos (by omega), if_pos (by omega)]
        · rw [if_neg (by omega), if_neg (by omega)]
    · rw [e6, h1, h2, h3]
      by_cases q : 0 < A 7 ∧ A 7 ≤ n
      · rw [if_pos q, if_pos q, if_pos (Or.inr rfl), if_pos (by omega)]
      · rw [if_neg q, if_neg q]
        by_cases q2 : A 7 = n + 1
        · rw [if_pos (by omega), if_pos (by omega)]; omega
        · rw [if_neg (by omega), if_neg (by omega)]; omega
    · show wbA _ j = _
      unfold wbA
      rw [if_neg (by omega), if_neg (by omega), if_neg (by omega)]
      exact h4 j hj
theorem cntC_mono (L H : Nat → Nat) {a b : Nat} (h : a ≤ b) : cntC L H a ≤ cntC L H b := by
  induction b with
  | zero => have : a = 0 := by omega
            subst this; exact Nat.le_refl _
  | succ b ih =>
    by_cases hab : a = b + 1
    · subst hab; exact Nat.le_refl _
    · have := ih (by omega)
      rw [cntC]
      split <;> omega
theorem cntC_pos (L H : Nat → Nat) {e E : Nat} (he : e < E) (h1 : e % 2 ^ L e = e) (h2 : H e = 0) : 0 < cntC L H E := by
  have h3 : cntC L H (e + 1) = cntC L H e + 1 := by rw [cntC, if_pos ⟨h1, h2⟩]
  have := cntC_mono L H (a := e + 1) (b := E) (by omega)
  omega
theorem cntC_none (L H : Nat → Nat) : ∀ {E : Nat}, (∀ e, e < E → H e ≠ 0) → cntC L H E = 0
  | 0, _ => rfl
  | E + 1, h => by
    rw [cntC, if_neg (fun q => h E (by omega) q.2), cntC_none L H (fun e he => h e (by omega))]
/-- what both sides start a sync from -/
def SyH (B d g : Nat) (L H R0 : Nat → Nat) (Z0 T1 T0 : Nat → Bool) (A : Nat → Nat) (BI : Nat → Nat → Nat) : Prop :=
  (8 ≤ B ∧ B ≤ 200 ∧ A 0 = B) ∧ (∀ e e', e < 2 ^ d → e' < 2 ^ d → (R0 e = R0 e' ↔ e % 2 ^ L e = e' % 2 ^ L e)) ∧ (∀ e, e < 2 ^ d → L e ≤ d ∧ L (e % 2 ^ L e) = L e ∧ H (e % 2 ^ L e) = H e ∧ BI 4 (R0 e) = H e) ∧ (∀ b, b < B → (T1 b = true ↔ b < 2 ∨ Z0 b = true)) ∧ (∀ b, b < 200 → T0 b = false) ∧ LH B Z0 d H R0 ∧ cntC L H (2 ^ d) + g ≤ cntE Z0 (B - 2)
def SL (B d : Nat) (L H R0 : Nat → Nat) (Z0 T1 T0 : Nat → Bool) (A : Nat → Nat) (BI : Nat → Nat → Nat) (e : Nat) : Prop :=
  ((∀ b, b < B → ((wbS R0 A T1 BI e).2.1 b = true ↔ b < 2 ∨ Z0 b = true ∨ (stB L Z0 H T0 e).2 b = true)) ∧
  (∀ j, j < 2 ^ d → (wbS R0 A T1 BI e).2.2 4 (R0 j) = (stB L Z0 H T0 e).1 (j % 2 ^ L j)) ∧
  (∀ q, (wbS R0 A T1 BI e).2.2 0 q = BI 0 q ∧ (wbS R0 A T1 BI e).2.2 3 q = BI 3 q ∧ (BI 4 q ≠ 0 → ∀ j, (wbS R0 A T1 BI e).2.2 j q = BI j q)) ∧
  (wbS R0 A T1 BI e).1 = wbI A (cntC L H e)) ∧
  ((∀ f, f < e → f % 2 ^ L f = f → (stB L Z0 H T0 e).1 f ≠ 0) ∧
  cntE (fun b => Z0 b || (stB L Z0 H T0 e).2 b) (B - 2) + cntC L H e = cntE Z0 (B - 2)) ∧
  ((∀ b, b < 200 → (stB L Z0 H T0 e).2 b = true → ∃ f, f < e ∧ f % 2 ^ L f = f ∧ H f = 0 ∧ (stB L Z0 H T0 e).1 f = b) ∧
  (∀ f, f < e → f % 2 ^ L f = f → H f = 0 → (stB L Z0 H T0 e).2 ((stB L Z0 H T0 e).1 f) = true ∧ Z0 ((stB L Z0 H T0 e).1 f) = false ∧ 2 ≤ (stB L Z0 H T0 e).1 f ∧ (stB L Z0 H T0 e).1 f < B) ∧
  (∀ f f', f < e → f' < e → f % 2 ^ L f = f → f' % 2 ^ L f' = f' → H f = 0 → H f' = 0 → (stB L Z0 H T0 e).1 f = (stB L Z0 H T0 e).1 f' → f = f') ∧
  (∀ j, H j ≠ 0 → (stB L Z0 H T0 e).1 j = H j))
section SY
variable {B d g : Nat} {L H R0 : Nat → Nat} {Z0 T1 T0 : Nat → Bool} {A : Nat → Nat} {BI : Nat → Nat → Nat}
theorem SL.zero (h : SyH B d g L H R0 Z0 T1 T0 A BI) : SL B d L H R0 Z0 T1 T0 A BI 0 := by
  obtain ⟨⟨hB8, hB2, hA0⟩, hcong, hL, hT1, hT0, hLH, hcap⟩ := h
  refine ⟨⟨fun b hb => ?_, fun j hj => ?_, fun q => ⟨rfl, rfl, fun _ _ => rfl⟩, rfl⟩, ⟨fun f hf => absurd hf (by omega), ?_⟩, fun b hb hq => ?_, fun f hf => absurd hf (by omega), fun f f' hf => absurd hf (by omega), fun j _ => rfl⟩
  · show T1 b = true ↔ b < 2 ∨ Z0 b = true ∨ T0 b = true
    rw [hT0 b (by omega), hT1 b hb]
    simp
  · show BI 4 (R0 j) = H (j % 2 ^ L j)
    rw [(hL j hj).2.2.1, (hL j hj).2.2.2]
  · show cntE _ _ + 0 = _
    rw [Nat.add_zero]
    refine cntE_congr fun b h1 h2 => ?_
    show (Z0 b || T0 b) = Z0 b
    rw [hT0 b (by omega), Bool.or_false]
  · have : T0 b = true := hq
    rw [hT0 b hb] at this
    cases this
/-- there is a free block when one is to be taken -/
theorem SL.free (h : SyH B d g L H R0 Z0 T1 T0 A BI) {e : Nat} (hs : SL B d L H R0 Z0 T1 T0 A BI e) (he : e < 2 ^ d) (hf : e % 2 ^ L e = e) (hz : H e = 0) : ∃ f0, 2 ≤ f0 ∧ f0 < B ∧ Z0 f0 = false ∧ (stB L Z0 H T0 e).2 f0 = false := by
  obtain ⟨⟨hB8, hB2, hA0⟩, hcong, hL, hT1, hT0, hLH, hcap⟩ := h
  have h6 := hs.2.1.2
  have h7 : cntC L H (e + 1) = cntC L H e + 1 := by rw [cntC, if_pos ⟨hf, hz⟩]
  have h8 := cntC_mono L H (a := e + 1) (b := 2 ^ d) (by omega)
  obtain ⟨b, h1, h2, h3⟩ := cntE_pos (S := fun b => Z0 b || (stB L Z0 H T0 e).2 b) (n := B - 2) (by omega)
  have h4 : Z0 b = false ∧ (stB L Z0 H T0 e).2 b = false := by simpa using h3
  exact ⟨b, h1, by omega, h4.1, h4.2⟩
theorem SL.step (h : SyH B d g L H R0 Z0 T1 T0 A BI) {e : Nat} (hs : SL B d L H R0 Z0 T1 T0 A BI e) (he : e < 2 ^ d) : SL B d L H R0 Z0 T1 T0 A BI (e + 1) := by
  have hfree := hs.free h he
  obtain ⟨⟨hB8, hB2, hA0⟩, hcong, hL, hT1, hT0, hLH, hcap⟩ := h
  obtain ⟨⟨j1, j2, j3, j4⟩, ⟨j5, j6⟩, j7, j8, j9, j10⟩ := hs
  have hge := stB_ge L Z0 H T0 e e (Nat.le_refl _)
  by_cases hc : e % 2 ^ L e = e ∧ H e = 0
  · -- taken
    obtain ⟨hf, hz⟩ := hc
    obtain ⟨f0, g1, g2, g3, g4⟩ := hfree hf hz
    have hb := lfr_eq (T' := (wbS R0 A T1 BI e).2.1) g3 g4 198 (A 0 - 3) 2 g1 (by omega) (by omega) (fun x hx1 hx2 => by
      rw [j1 x (by omega)]
      constructor
      · rintro (q | q)
        · omega
        · exact q
      · exact Or.inr)
    have es : stB L Z0 H T0 (e + 1) = (va_up (stB L Z0 H T0 e).1 e (lfr Z0 (stB L Z0 H T0 e).2 198 2), va_up (stB L Z0 H T0 e).2 (lfr Z0 (stB L Z0 H T0 e).2 198 2) true) := by
      rw [stB, if_pos ⟨hf, by rw [hge]; exact hz⟩]
    have hcz : (wbS R0 A T1 BI e).2.2 4 (R0 e) = 0 := by rw [j2 e he, hf, hge]; exact hz
    have ew : wbS R0 A T1 BI (e + 1) = (wbA (wbS R0 A T1 BI e).1, va_up (wbS R0 A T1 BI e).2.1 (lff (wbS R0 A T1 BI e).2.1 (A 0 - 3) 2) true, setI (wbS R0 A T1 BI e).2.2 (R0 e) ((wbS R0 A T1 BI e).2.2 0 (R0 e)) ((wbS R0 A T1 BI e).2.2 3 (R0 e)) (lff (wbS R0 A T1 BI e).2.1 (A 0 - 3) 2)) := by
      rw [wbS, if_pos hcz]
    rw [hb.1] at ew
    obtain ⟨-, k1, k2, k3, k4⟩ := hb
    have ec : cntC L H (e + 1) = cntC L H e + 1 := by rw [cntC, if_pos ⟨hf, hz⟩]
    unfold SL
    rw [es, ew, ec]
    dsimp only
    generalize lfr Z0 (stB L Z0 H T0 e).2 198 2 = b at *
    have hne : ∀ j, j ≠ e → va_up (stB L Z0 H T0 e).1 e b j = (stB L Z0 H T0 e).1 j := fun j hj => va_up_ne _ _ hj
    have hse : va_up (stB L Z0 H T0 e).1 e b e = b := va_up_self _ _ _
    refine ⟨⟨fun x hx => ?_, fun j hj => ?_, fun q => ?_, by rw [j4]; rfl⟩, ⟨fun f hf1 hf2 => ?_, ?_⟩, fun x hx hq => ?_, fun f hf1 hf2 hf3 => ?_, fun f f' hf1 hf1' hf2 hf2' hf3 hf3' hq => ?_, fun j hj => ?_⟩
    · by_cases hxb : x = b
      · subst hxb; rw [va_up_self, va_up_self]; simp
      · rw [va_up_ne _ _ hxb, va_up_ne _ _ hxb]; exact j1 x hx
    · by_cases hjr : R0 j = R0 e
      · rw [hjr, (@setI_self (wbS R0 A T1 BI e).2.2 (R0 e) _ _ b).2.2]
        have h1 := (hcong e j he hj).mp hjr.symm
        have h2 : j % 2 ^ L j = e := by
          have hlj : L e = L j := by
            have h3 := (hL j hj).2.1
            have h4 := (hcong j e hj he).mp hjr
            have h5 := (hL e he).2.1
            have h6 : j % 2 ^ L e = e := h1.symm.trans hf
            rw [hf] at h1
            by_cases hle : L e ≤ L j
            · have h7 : (e % 2 ^ L j) % 2 ^ L e = e := by rw [Nat.mod_mod_of_dvd _ (Nat.pow_dvd_pow 2 hle), hf]
              have h8 : e % 2 ^ L j = e := by
                refine Nat.mod_eq_of_lt ?_
                have : e < 2 ^ L e := lt_mod.mpr hf
                exact Nat.lt_of_lt_of_le this (Nat.pow_le_pow_right (by omega) hle)
              have h9 : L (j % 2 ^ L j) = L e := by rw [h4, h8]
              omega
            · have hle2 : L j ≤ L e := by omega
              have h8 : (j % 2 ^ L e) % 2 ^ L j = j % 2 ^ L j := Nat.mod_mod_of_dvd _ (Nat.pow_dvd_pow 2 hle2)
              have h10 : j % 2 ^ L j < 2 ^ d := Nat.lt_of_le_of_lt (Nat.mod_le _ _) hj
              have h11 : R0 (j % 2 ^ L j) = R0 e := by
                rw [← hjr]
                exact ((hcong j _ hj h10).mpr (by rw [Nat.mod_mod])).symm
              have h12 := (hcong e _ he h10).mp h11.symm
              have h13 : (j % 2 ^ L j) % 2 ^ L e = j % 2 ^ L j := Nat.mod_eq_of_lt (Nat.lt_of_lt_of_le (Nat.mod_lt _ (Nat.two_pow_pos _)) (Nat.pow_le_pow_right (by omega) hle2))
              rw [hf, h13] at h12
              rw [← h12] at h3
              exact h3
          rw [← hlj, ← h1, hf]
        rw [h2, hse]
      · rw [setI_ne hjr, j2 j hj, hne]
        intro hje
        apply hjr
        have h10 : j % 2 ^ L j < 2 ^ d := by omega
        have := (hcong j _ hj h10).mpr (by rw [Nat.mod_mod])
        rw [this, hje]
    · obtain ⟨q1, q2, q3⟩ := j3 q
      by_cases hq : q = R0 e
      · subst hq
        have hsi := @setI_self (wbS R0 A T1 BI e).2.2 (R0 e) ((wbS R0 A T1 BI e).2.2 0 (R0 e)) ((wbS R0 A T1 BI e).2.2 3 (R0 e)) b
        refine ⟨by rw [hsi.1]; exact q1, by rw [hsi.2.1]; exact q2, fun hn => ?_⟩
        have := q3 hn 4
        rw [hcz] at this
        exact absurd this.symm hn
      · rw [setI_ne hq, setI_ne hq]
        exact ⟨q1, q2, fun hn j => by rw [setI_ne hq]; exact q3 hn j⟩
    · by_cases hfe : f = e
      · rw [hfe, hse]; omega
      · rw [hne f hfe]; exact j5 f (by omega) hf2
    · have := cntE_up (S := fun x => Z0 x || (stB L Z0 H T0 e).2 x) (b := b) (n := B - 2) k1 (by rw [k3, k4]; rfl) (by omega)
      have h9 : cntE (fun x => Z0 x || va_up (stB L Z0 H T0 e).2 b true x) (B - 2) = cntE (va_up (fun x => Z0 x || (stB L Z0 H T0 e).2 x) b true) (B - 2) := by
        refine cntE_congr fun x _ _ => ?_
        by_cases hxb : x = b
        · subst hxb; rw [va_up_self, va_up_self, Bool.or_true]
        · rw [va_up_ne _ _ hxb, va_up_ne _ _ hxb]
      rw [h9]
      omega
    · by_cases hxb : x = b
      · exact ⟨e, by omega, hf, hz, by rw [hse]; exact hxb.symm⟩
      · rw [va_up_ne _ _ hxb] at hq
        obtain ⟨f, p1, p2, p3, p4⟩ := j7 x hx hq
        exact ⟨f, by omega, p2, p3, by rw [hne f (by omega)]; exact p4⟩
    · by_cases hfe : f = e
      · rw [hfe, hse, va_up_self]; exact ⟨rfl, k3, k1, by omega⟩
      · rw [hne f hfe]
        obtain ⟨p1, p2, p3, p4⟩ := j8 f (by omega) hf2 hf3
        refine ⟨?_, p2, p3, p4⟩
        by_cases hxb : (stB L Z0 H T0 e).1 f = b
        · rw [hxb, va_up_self]
        · rw [va_up_ne _ _ hxb]; exact p1
    · have hnew : ∀ x, x < e → x % 2 ^ L x = x → H x = 0 → (stB L Z0 H T0 e).1 x ≠ b := fun x hx1 hx2 hx3 q => by
        have := (j8 x hx1 hx2 hx3).1
        rw [q, k4] at this
        cases this
      by_cases hfe : f = e
      · by_cases hfe' : f' = e
        · omega
        · rw [hfe, hse, hne f' hfe'] at hq
          exact absurd hq.symm (hnew f' (by omega) hf2' hf3')
      · by_cases hfe' : f' = e
        · rw [hfe', hse, hne f hfe] at hq
          exact absurd hq (hnew f (by omega) hf2 hf3)
        · rw [hne f hfe, hne f' hfe'] at hq
          exact j9 f f' (by omega) (by omega) hf2 hf2' hf3 hf3' hq
    · have hje : j ≠ e := fun z => hj (by rw [z]; exact hz)
      rw [hne j hje]
      exact j10 j hj
  · -- not taken
    have es : stB L Z0 H T0 (e + 1) = stB L Z0 H T0 e := by
      rw [stB, if_neg (fun q => hc ⟨q.1, by have := q.2; rw [hge] at this; exact this⟩)]
    have hcz : ¬ (wbS R0 A T1 BI e).2.2 4 (R0 e) = 0 := by
      rw [j2 e he]
      intro q
      by_cases hf : e % 2 ^ L e = e
      · rw [hf, hge] at q
        exact hc ⟨hf, q⟩
      · have hlt : e % 2 ^ L e < e := by have := Nat.mod_le e (2 ^ L e); omega
        refine j5 _ hlt ?_ q
        rw [(hL e he).2.1, Nat.mod_mod]
    have ew : wbS R0 A T1 BI (e + 1) = wbS R0 A T1 BI e := by rw [wbS, if_neg hcz]
    have ec : cntC L H (e + 1) = cntC L H e := by rw [cntC, if_neg hc]
    unfold SL
    rw [es, ew, ec]
    refine ⟨⟨j1, j2, j3, j4⟩, ⟨fun f hf1 hf2 => ?_, j6⟩, fun x hx hq => ?_, fun f hf1 hf2 hf3 => ?_, fun f f' hf1 hf1' hf2 hf2' hf3 hf3' hq => ?_, j10⟩
    · by_cases hfe : f = e
      · subst hfe
        rw [hge]
        exact fun q => hc ⟨hf2, q⟩
      · exact j5 f (by omega) hf2
    · obtain ⟨f, p1, p2⟩ := j7 x hx hq
      exact ⟨f, by omega, p2⟩
    · have hfe : f ≠ e := fun z => by subst z; exact hc ⟨hf2, hf3⟩
      exact j8 f (by omega) hf2 hf3
    · have hfe : f ≠ e := fun z => by subst z; exact hc ⟨hf2, hf3⟩
      have hfe' : f' ≠ e := fun z => by subst z; exact hc ⟨hf2', hf3'⟩
      exact j9 f f' (by omega) (by omega) hf2 hf2' hf3 hf3' hq
theorem SL.all (h : SyH B d g L H R0 Z0 T1 T0 A BI) : ∀ e, e ≤ 2 ^ d → SL B d L H R0 Z0 T1 T0 A BI e
  | 0, _ => SL.zero h
  | e + 1, he => SL.step h (SL.all h e (by omega)) (by omega)
end SY
/-- the directory's blocks -/
def SD (B cc : Nat) (Z0 Tr Tc : Nat → Bool) (A A2 : Nat → Nat) (D0 : Nat → Nat) (k : Nat) : Prop :=
  (∀ b, b < B → ((wdS A2 Tc D0 k).2.1 b = true ↔ b < 2 ∨ Z0 b = true ∨ stD Z0 Tr k b = true)) ∧ (wdS A2 Tc D0 k).1 = wbI A (cc + k) ∧
  cntE (fun b => Z0 b || stD Z0 Tr k b) (B - 2) + cc + k = cntE Z0 (B - 2) ∧ (∀ b, stD Z0 Tr k b = true ↔ Tr b = true ∨ ∃ i, i < k ∧ (wdS A2 Tc D0 k).2.2 i = b) ∧
  (∀ i, i < k → 2 ≤ (wdS A2 Tc D0 k).2.2 i ∧ (wdS A2 Tc D0 k).2.2 i < B ∧ Z0 ((wdS A2 Tc D0 k).2.2 i) = false ∧ Tr ((wdS A2 Tc D0 k).2.2 i) = false) ∧
  (∀ i i', i < k → i' < k → (wdS A2 Tc D0 k).2.2 i = (wdS A2 Tc D0 k).2.2 i' → i = i')
section SYD
variable {B cc g : Nat} {Z0 Tr Tc : Nat → Bool} {A A2 D0 : Nat → Nat}
theorem SD.free (hB8 : 8 ≤ B) (hcap : cc + g ≤ cntE Z0 (B - 2)) {k : Nat} (hs : SD B cc Z0 Tr Tc A A2 D0 k) (hk : k < g) : ∃ f0, 2 ≤ f0 ∧ f0 < B ∧ Z0 f0 = false ∧ stD Z0 Tr k f0 = false := by
  have h6 := hs.2.2.1
  obtain ⟨b, h1, h2, h3⟩ := cntE_pos (S := fun b => Z0 b || stD Z0 Tr k b) (n := B - 2) (by omega)
  have h4 : Z0 b = false ∧ stD Z0 Tr k b = false := by simpa using h3
  exact ⟨b, h1, by omega, h4.1, h4.2⟩
theorem SD.step (hB8 : 8 ≤ B) (hB2 : B ≤ 200) (hA0 : A2 0 = B) (hcap : cc + g ≤ cntE Z0 (B - 2)) {k : Nat} (hs : SD B cc Z0 Tr Tc A A2 D0 k) (hk : k < g) : SD B cc Z0 Tr Tc A A2 D0 (k + 1) := by
  obtain ⟨f0, g1, g2, g3, g4⟩ := hs.free hB8 hcap hk
  obtain ⟨d1, d2, d3, d4, d5, d6⟩ := hs
  have hb := lfr_eq (T' := (wdS A2 Tc D0 k).2.1) g3 g4 198 (A2 0 - 3) 2 g1 (by omega) (by omega) (fun x hx1 hx2 => by
    rw [d1 x (by omega)]
    constructor
    · rintro (q | q)
      · omega
      · exact q
    · exact Or.inr)
  have ew : wdS A2 Tc D0 (k + 1) = (wbA (wdS A2 Tc D0 k).1, va_up (wdS A2 Tc D0 k).2.1 (lff (wdS A2 Tc D0 k).2.1 (A2 0 - 3) 2) true, va_up (wdS A2 Tc D0 k).2.2 k (lff (wdS A2 Tc D0 k).2.1 (A2 0 - 3) 2)) := rfl
  have es : stD Z0 Tr (k + 1) = va_up (stD Z0 Tr k) (lfr Z0 (stD Z0 Tr k) 198 2) true := rfl
  rw [hb.1] at ew
  obtain ⟨-, k1, k2, k3, k4⟩ := hb
  unfold SD
  rw [es, ew]
  dsimp only
  generalize lfr Z0 (stD Z0 Tr k) 198 2 = b at *
  have hse : va_up (wdS A2 Tc D0 k).2.2 k b k = b := va_up_self _ _ _
  have hne : ∀ i, i ≠ k → va_up (wdS A2 Tc D0 k).2.2 k b i = (wdS A2 Tc D0 k).2.2 i := fun i hi => va_up_ne _ _ hi
  have hTrb : Tr b = false := by
    cases hq : Tr b with
    | false => rfl
    | true => have := (d4 b).mpr (Or.inl hq); rw [k4] at this; cases this
  refine ⟨fun x hx => ?_, by rw [d2]; rfl, ?_, fun x => ?_, fun i hi => ?_, fun i i' hi hi' hq => ?_⟩
  · by_cases hxb : x = b
    · subst hxb; rw [va_up_self, va_up_self]; simp
    · rw [va_up_ne _ _ hxb, va_up_ne _ _ hxb]; exact d1 x hx
  · have := cntE_up (S := fun x => Z0 x || stD Z0 Tr k x) (b := b) (n := B - 2) k1 (by rw [k3, k4]; rfl) (by omega)
    have h9 : cntE (fun x => Z0 x || va_up (stD Z0 Tr k) b true x) (B - 2) = cntE (va_up (fun x => Z0 x || stD Z0 Tr k x) b true) (B - 2) := by
      refine cntE_congr fun x _ _ => ?_
      by_cases hxb : x = b
      · subst hxb; rw [va_up_self, va_up_self, Bool.or_true]
      · rw [va_up_ne _ _ hxb, va_up_ne _ _ hxb]
    rw [h9]
    omega
  · by_cases hxb : x = b
    · subst hxb
      rw [va_up_self]
      exact ⟨fun _ => Or.inr ⟨k, by omega, hse⟩, fun _ => rfl⟩
    · rw [va_up_ne _ _ hxb, d4 x]
      constructor
      · rintro (q | ⟨i, hi, hq⟩)
        · exact Or.inl q
        · exact Or.inr ⟨i, by omega, by rw [hne i (by omega)]; exact hq⟩
      · rintro (q | ⟨i, hi, hq⟩)
        · exact Or.inl q
        · by_cases hik : i = k
          · rw [hik, hse] at hq; exact absurd hq.symm hxb
          · rw [hne i hik] at hq; exact Or.inr ⟨i, by omega, hq⟩
  · by_cases hik : i = k
    · rw [hik, hse]; exact ⟨k1, by omega, k3, hTrb⟩
    · rw [hne i hik]; exact d5 i (by omega)
  · have hnew : ∀ x, x < k → (wdS A2 Tc D0 k).2.2 x ≠ b := fun x hx q => by
      have := (d4 b).mpr (Or.inr ⟨x, hx, q⟩)
      rw [k4] at this
      cases this
    by_cases hik : i = k
    · by_cases hik' : i' = k
      · omega
      · rw [hik, hse, hne i' hik'] at hq
        exact absurd hq.symm (hnew i' (by omega))
    · by_cases hik' : i' = k
      · rw [hik', hse, hne i hik] at hq
        exact absurd hq (hnew i (by omega))
      · rw [hne i hik, hne i' hik'] at hq
        exact d6 i i' (by omega) (by omega) hq
theorem SD.all (hB8 : 8 ≤ B) (hB2 : B ≤ 200) (hA0 : A2 0 = B) (hcap : cc + g ≤ cntE Z0 (B - 2)) (h0 : SD B cc Z0 Tr Tc A A2 D0 0) : ∀ k, k ≤ g → SD B cc Z0 Tr Tc A A2 D0 k
  | 0, _ => h0
  | k + 1, hk => SD.step hB8 hB2 hA0 hcap (SD.all hB8 hB2 hA0 hcap h0 k (by omega)) (by omega)
end SYD
