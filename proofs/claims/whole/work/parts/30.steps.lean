/-! the steps of the live side: what a changed bucket, a split, a merge do to the view -/
def LV (B : Nat) (Z0 : Nat → Bool) (d n nb : Nat) (KK VV : Nat → Int32) (L H R0 : Nat → Nat) (BI : Nat → Nat → Nat) (BD : Nat → Nat → Nat → Int32) (P : Nat → Prop) : Prop :=
  Vw d n KK VV L H R0 BI BD P ∧ nb = cntF L (2 ^ d) ∧ LH B Z0 d H R0
/-- what changeableBucketOf gives: the bucket c of the entry e0 (local depth l, cnt keys) may change -/
def CHG (d l e0 cnt b c : Nat) (R0 R1 : Nat → Nat) (BI BI1 : Nat → Nat → Nat) (BD BD1 : Nat → Nat → Nat → Int32) (P P1 : Nat → Prop) : Prop :=
  (∀ e, R1 e = if e < 2 ^ d ∧ e % 2 ^ l = e0 % 2 ^ l then c else R0 e) ∧ (c = b ∨ ∀ q, P q → q ≠ c) ∧ P1 c ∧ (BI1 0 c = l ∧ BI1 3 c = cnt ∧ BI1 4 c = 0) ∧ (∀ i, i < cnt → BD1 0 c i = BD 0 b i ∧ BD1 1 c i = BD 1 b i) ∧ (∀ q, P q → P1 q ∧ ∀ j, BI1 j q = BI j q ∧ BD1 j q = BD j q)
section LVS
variable {B d n n' nb : Nat} {Z0 : Nat → Bool} {KK VV KK' VV' : Nat → Int32} {N : Nat → Nat → Nat} {L H R0 R1 : Nat → Nat} {BI BI1 BI' : Nat → Nat → Nat} {BD BD1 BD' : Nat → Nat → Nat → Int32} {P P1 : Nat → Prop}
theorem setN_0a (N : Nat → Nat → Nat) (E r b nl e : Nat) : setN N E r b nl 0 e = if e < E ∧ e % 2 ^ b = r % 2 ^ b then nl else N 0 e := by
  unfold setN
  by_cases h : e < E ∧ e % 2 ^ b = r % 2 ^ b
  · rw [if_pos h, if_pos h, if_pos rfl]
  · rw [if_neg h, if_neg h]
theorem setN_1a (N : Nat → Nat → Nat) (E r b nl e : Nat) : setN N E r b nl 1 e = if e < E ∧ e % 2 ^ b = r % 2 ^ b then 0 else N 1 e := by
  unfold setN
  by_cases h : e < E ∧ e % 2 ^ b = r % 2 ^ b
  · rw [if_pos h, if_pos h, if_neg (by omega), if_pos rfl]
  · rw [if_neg h, if_neg h]
theorem setN_2a (N : Nat → Nat → Nat) (E r b nl i : Nat) (hi : 2 ≤ i) : setN N E r b nl i = N i := by
  funext e
  unfold setN
  by_cases h : e < E ∧ e % 2 ^ b = r % 2 ^ b
  · rw [if_pos h, if_neg (by omega), if_neg (by omega)]
  · rw [if_neg h]
/-- a bucket with changed contents -/
theorem LV.put {e0 cnt c cn : Nat} {K1 U1 : Nat → Int32} (h : LV B Z0 d n nb KK VV (N 0) (N 1) R0 BI BD P) (he0 : e0 < 2 ^ d) (hg : CHG d (N 0 e0) e0 cnt (R0 e0) c R0 R1 BI BI1 BD BD1 P P1) (hcn : cn ≤ 15)
    (hp : (kvl K1 U1 cn).Perm ((kvl KK' VV' n').filter (inB (N 0 e0) e0))) (ho : ∀ e, e < 2 ^ d → ¬ e % 2 ^ N 0 e0 = e0 % 2 ^ N 0 e0 → ((kvl KK VV n).filter (inB (N 0 e) e)).Perm ((kvl KK' VV' n').filter (inB (N 0 e) e))) :
    LV B Z0 d n' nb KK' VV' (setN N (2 ^ d) e0 (N 0 e0) (N 0 e0) 0) (setN N (2 ^ d) e0 (N 0 e0) (N 0 e0) 1) R1 (setI BI1 c (N 0 e0) cn 0) (setD BD1 c K1 U1) P1 := by
  obtain ⟨hv, hn, hh⟩ := h
  obtain ⟨g1, g2, g3, g4, g5, g6⟩ := hg
  have hL : ∀ e, e < 2 ^ d → setN N (2 ^ d) e0 (N 0 e0) (N 0 e0) 0 e = N 0 e := fun e he => by
    rw [setN_0a]
    by_cases hm : e < 2 ^ d ∧ e % 2 ^ N 0 e0 = e0 % 2 ^ N 0 e0
    · rw [if_pos hm]; exact (hv.cong he0 he hm.2.symm).2.1
    · rw [if_neg hm]
  have hR : ∀ e, e < 2 ^ d → R1 e = if e % 2 ^ N 0 e0 = e0 % 2 ^ N 0 e0 then c else R0 e := fun e he => by
    rw [g1 e]
    by_cases hm : e % 2 ^ N 0 e0 = e0 % 2 ^ N 0 e0
    · rw [if_pos ⟨he, hm⟩, if_pos hm]
    · rw [if_neg (fun q => hm q.2), if_neg hm]
  have hH : ∀ e, e < 2 ^ d → setN N (2 ^ d) e0 (N 0 e0) (N 0 e0) 1 e = if e % 2 ^ N 0 e0 = e0 % 2 ^ N 0 e0 then 0 else N 1 e := fun e he => by
    rw [setN_1a]
    by_cases hm : e % 2 ^ N 0 e0 = e0 % 2 ^ N 0 e0
    · rw [if_pos ⟨he, hm⟩, if_pos hm]
    · rw [if_neg (fun q => hm q.2), if_neg hm]
  refine ⟨?_, ?_, ?_⟩
  · refine hv.put he0 hR hH hL ?_ ?_ (fun q hq => (g6 q hq).1) g3 ?_ ?_ ho
    · rcases g2 with g2 | g2
      · exact Or.inl g2
      · exact Or.inr fun e he => g2 _ (hv.1 e he).1
    · intro e he hm j
      have hne : R0 e ≠ c := by
        rcases g2 with g2 | g2
        · intro q
          exact hm (((hv.2 e0 e he0 he).mp (q.trans g2).symm).symm)
        · exact g2 _ (hv.1 e he).1
      rw [setI_ne hne, setD_ne hne]
      exact (g6 _ (hv.1 e he).1).2 j
    · have := @setI_self BI1 c (N 0 e0) cn 0
      exact ⟨this.1, this.2.2, by rw [this.2.1]; exact hcn⟩
    · have := @setI_self BI1 c (N 0 e0) cn 0
      rw [this.2.1, setD_self.1, setD_self.2]
      exact hp
  · rw [hn]
    exact cntF_congr fun j hj => by rw [hL j hj]
  · refine hh.zero fun e he => ?_
    rw [hH e he, hR e he]
    by_cases hm : e % 2 ^ N 0 e0 = e0 % 2 ^ N 0 e0
    · rw [if_pos hm]; exact Or.inl rfl
    · rw [if_neg hm, if_neg hm]; exact Or.inr ⟨rfl, rfl⟩
theorem bitI {k : Int32} {l : Nat} (hl : l ≤ 30) : mx k &&& nI (2 ^ l) = 0 ↔ hx k % 2 ^ (l + 1) = hx k % 2 ^ l := by
  have hle : 2 ^ l ≤ 2 ^ 30 := Nat.pow_le_pow_right (by omega) hl
  rw [← bit0_iff]
  have h1 : tn (mx k &&& nI (2 ^ l)) = hx k &&& 2 ^ l := by rw [tn_and, tn_nI (by omega)]; rfl
  rw [← h1]
  constructor
  · intro h; rw [h]; rfl
  · intro h; exact tn_inj (h.trans (by rfl))
theorem inB_lo {l a : Nat} (hl : l ≤ 30) (ha : a < 2 ^ l) (q : Int32 × Int32) (e0 : Nat) (he : e0 % 2 ^ l = a) : (decide (decide (mx q.1 &&& nI (2 ^ l) = 0) = true) && inB l e0 q) = inB (l + 1) a q := by
  have hpe : 2 ^ (l + 1) = 2 * 2 ^ l := by rw [Nat.pow_succ]; omega
  rw [Bool.eq_iff_iff, Bool.and_eq_true, decide_eq_true_eq, decide_eq_true_eq, bitI hl]
  unfold inB
  rw [decide_eq_true_eq, decide_eq_true_eq, he, Nat.mod_eq_of_lt (a := a) (by omega)]
  constructor
  · rintro ⟨h1, h2⟩; rw [h1, h2]
  · intro h
    have h2 : hx q.1 % 2 ^ l = a := by
      rw [← Nat.mod_mod_of_dvd (hx q.1) (Nat.pow_dvd_pow 2 (by omega : l ≤ l + 1)), h, Nat.mod_eq_of_lt ha]
    exact ⟨h.trans h2.symm, h2⟩
theorem inB_hi {l a : Nat} (hl : l ≤ 30) (ha : a < 2 ^ l) (q : Int32 × Int32) (e0 : Nat) (he : e0 % 2 ^ l = a) : (decide (decide (mx q.1 &&& nI (2 ^ l) = 0) = false) && inB l e0 q) = inB (l + 1) (a + 2 ^ l) q := by
  have hpe : 2 ^ (l + 1) = 2 * 2 ^ l := by rw [Nat.pow_succ]; omega
  rw [Bool.eq_iff_iff, Bool.and_eq_true, decide_eq_true_eq, decide_eq_false_iff_not, bitI hl]
  unfold inB
  rw [decide_eq_true_eq, decide_eq_true_eq, he, Nat.mod_eq_of_lt (a := a + 2 ^ l) (by omega)]
  constructor
  · rintro ⟨h1, h2⟩
    rcases mod2c (hx q.1) l with h3 | h3
    · exact absurd h3 h1
    · rw [h3, h2]
  · intro h
    have h2 : hx q.1 % 2 ^ l = a := by
      rw [← Nat.mod_mod_of_dvd (hx q.1) (Nat.pow_dvd_pow 2 (by omega : l ≤ l + 1)), h, Nat.add_mod_right, Nat.mod_eq_of_lt ha]
    exact ⟨by omega, h2⟩
end LVS
theorem dblN_01 (N : Nat → Nat → Nat) (E i : Nat) (hi : i = 0 ∨ i = 1) : dblN N E E i = dblR (N i) E E := by
  funext j
  unfold dblN dblR
  by_cases h : E ≤ j ∧ j < E + E
  · rw [if_pos ⟨hi, h⟩, if_pos h]
  · rw [if_neg (fun q => h q.2), if_neg h]
theorem dblN_2 (N : Nat → Nat → Nat) (E i : Nat) (hi : 2 ≤ i) : dblN N E E i = N i := by
  funext j
  unfold dblN
  rw [if_neg]
  rintro ⟨h, -⟩
  omega
/-- one split on both sides -/
theorem LV.split {B n nb sz : Nat} {Z0 : Nat → Bool} {K : Nat → Nat → Int32} {F : Nat → Nat} {N S R BI : Nat → Nat → Nat} {BD : Nat → Nat → Nat → Int32} {P : Nat → Prop} {k : Int32} (hS : S 0 2 = F 6) (h : LV B Z0 (F 6) n nb (K 0) (K 1) (N 0) (N 1) (R 0) BI BD P) (hn : NdF (K 0) n) (hd : F 6 ≤ 8) (hsz : ∀ q, P q → q < sz) :
    spD S R BI (mx k) = spF F N k 6 ∧ LV B Z0 (spF F N k 6) n (nb + 1) (K 0) (K 1) (spN F N k 0) (spN F N k 1) (spE S R BI sz (mx k))
      (setI (setI BI sz (BI 0 (R 0 (tn (mx k) % 2 ^ S 0 2)) + 1) (spL (BD 0 (R 0 (tn (mx k) % 2 ^ S 0 2))) (BD 1 (R 0 (tn (mx k) % 2 ^ S 0 2))) (nI (2 ^ BI 0 (R 0 (tn (mx k) % 2 ^ S 0 2)))) true (BI 3 (R 0 (tn (mx k) % 2 ^ S 0 2)))).2.2 0) (sz + 3) (BI 0 (R 0 (tn (mx k) % 2 ^ S 0 2)) + 1) (spL (BD 0 (R 0 (tn (mx k) % 2 ^ S 0 2))) (BD 1 (R 0 (tn (mx k) % 2 ^ S 0 2))) (nI (2 ^ BI 0 (R 0 (tn (mx k) % 2 ^ S 0 2)))) false (BI 3 (R 0 (tn (mx k) % 2 ^ S 0 2)))).2.2 0)
      (setD (setD BD sz (spL (BD 0 (R 0 (tn (mx k) % 2 ^ S 0 2))) (BD 1 (R 0 (tn (mx k) % 2 ^ S 0 2))) (nI (2 ^ BI 0 (R 0 (tn (mx k) % 2 ^ S 0 2)))) true (BI 3 (R 0 (tn (mx k) % 2 ^ S 0 2)))).1 (spL (BD 0 (R 0 (tn (mx k) % 2 ^ S 0 2))) (BD 1 (R 0 (tn (mx k) % 2 ^ S 0 2))) (nI (2 ^ BI 0 (R 0 (tn (mx k) % 2 ^ S 0 2)))) true (BI 3 (R 0 (tn (mx k) % 2 ^ S 0 2)))).2.1) (sz + 3) (spL (BD 0 (R 0 (tn (mx k) % 2 ^ S 0 2))) (BD 1 (R 0 (tn (mx k) % 2 ^ S 0 2))) (nI (2 ^ BI 0 (R 0 (tn (mx k) % 2 ^ S 0 2)))) false (BI 3 (R 0 (tn (mx k) % 2 ^ S 0 2)))).1 (spL (BD 0 (R 0 (tn (mx k) % 2 ^ S 0 2))) (BD 1 (R 0 (tn (mx k) % 2 ^ S 0 2))) (nI (2 ^ BI 0 (R 0 (tn (mx k) % 2 ^ S 0 2)))) false (BI 3 (R 0 (tn (mx k) % 2 ^ S 0 2)))).2.1)
      (fun q => (P q ∨ q = sz) ∨ q = sz + 3) := by
  obtain ⟨hv, hnb, hh⟩ := h
  have hp0 := Nat.two_pow_pos (F 6)
  have hE0 : tn (mx k) % 2 ^ S 0 2 = hx k % 2 ^ F 6 := by rw [hS]; rfl
  have he0 : hx k % 2 ^ F 6 < 2 ^ F 6 := Nat.mod_lt _ hp0
  obtain ⟨a1, a2, a3, a4, a5, a6⟩ := hv.1 _ he0
  rw [hE0]
  generalize hb : R 0 (hx k % 2 ^ F 6) = b at *
  have hlc : BI 0 b = eb F N k := a3
  have hspD : spD S R BI (mx k) = spF F N k 6 := by
    unfold spD spF
    rw [hE0, hb, hlc, hS]
    by_cases q : eb F N k = F 6
    · rw [if_pos q, if_pos q, va_up_self]
    · rw [if_neg q, if_neg q]
  refine ⟨hspD, ?_⟩
  have hspR : spR S R BI (mx k) = if eb F N k = F 6 then dblR (R 0) (2 ^ F 6) (2 ^ F 6) else R 0 := by
    unfold spR
    rw [hE0, hb, hlc, hS]
  have hebd : eb F N k ≤ F 6 := a2
  -- the doubled directory
  have hD : ∃ L1 H1 R1, (∀ e, spM F N k 0 e = L1 e) ∧ (∀ e, spM F N k 1 e = H1 e) ∧ spR S R BI (mx k) = R1 ∧ Vw (spF F N k 6) n (K 0) (K 1) L1 H1 R1 BI BD P ∧ cntF L1 (2 ^ spF F N k 6) = nb ∧ LH B Z0 (spF F N k 6) H1 R1 ∧ L1 (hx k % 2 ^ spF F N k 6) = eb F N k ∧ eb F N k < spF F N k 6 ∧ spF F N k 6 ≤ 9 := by
    by_cases q : eb F N k = F 6
    · have e6 : spF F N k 6 = F 6 + 1 := by unfold spF; rw [if_pos q, va_up_self]
      have eL : ∀ e, e < 2 ^ (F 6 + 1) → dblR (N 0) (2 ^ F 6) (2 ^ F 6) e = N 0 (e % 2 ^ F 6) := fun e he => dblR_mod he
      refine ⟨dblR (N 0) (2 ^ F 6) (2 ^ F 6), dblR (N 1) (2 ^ F 6) (2 ^ F 6), dblR (R 0) (2 ^ F 6) (2 ^ F 6), fun e => by unfold spM; rw [if_pos q, dblN_01 _ _ _ (Or.inl rfl)], fun e => by unfold spM; rw [if_pos q, dblN_01 _ _ _ (Or.inr rfl)], by rw [hspR, if_pos q], ?_, ?_, ?_, ?_, by omega, by omega⟩
      · rw [e6]; exact hv.dbl (fun e he => dblR_mod he) (fun e he => dblR_mod he) (fun e he => dblR_mod he)
      · rw [e6, hnb]; exact cntF_dbl (fun e he => (hv.1 e he).2.1) (fun e he => dblR_mod he)
      · rw [e6]; exact hh.dbl (fun e he => dblR_mod he) (fun e he => dblR_mod he)
      · rw [e6, dblR_mod (Nat.mod_lt _ (Nat.two_pow_pos _)), Nat.mod_mod_of_dvd _ (Nat.pow_dvd_pow 2 (by omega : F 6 ≤ F 6 + 1))]; rfl
    · have e6 : spF F N k 6 = F 6 := by unfold spF; rw [if_neg q]
      refine ⟨N 0, N 1, R 0, fun e => by unfold spM; rw [if_neg q], fun e => by unfold spM; rw [if_neg q], by rw [hspR, if_neg q], ?_, ?_, ?_, ?_, by omega, by omega⟩
      · rw [e6]; exact hv
      · rw [e6]; exact hnb.symm
      · rw [e6]; exact hh
      · rw [e6]; rfl
  obtain ⟨L1, H1, R1, hL1, hH1, hR1, hv1, hc1, hh1, hl1, hlt1, hd9⟩ := hD
  generalize hdd : spF F N k 6 = d1 at *
  generalize hll : eb F N k = l at *
  have hE1 : hx k % 2 ^ d1 < 2 ^ d1 := Nat.mod_lt _ (Nat.two_pow_pos _)
  have hmod : (hx k % 2 ^ d1) % 2 ^ l = hx k % 2 ^ l := Nat.mod_mod_of_dvd _ (Nat.pow_dvd_pow 2 (by omega))
  have hpl := Nat.two_pow_pos l
  have hal : hx k % 2 ^ l < 2 ^ l := Nat.mod_lt _ hpl
  have hin : ∀ e, e < 2 ^ d1 → e % 2 ^ l = (hx k % 2 ^ d1) % 2 ^ l → L1 e = l := fun e he q => by
    have := (hv1.cong hE1 he (by rw [hl1]; exact q.symm)).2.1
    omega
  have hNL : ∀ e, e < 2 ^ d1 → spN F N k 0 e = if e % 2 ^ l = (hx k % 2 ^ d1) % 2 ^ l then l + 1 else L1 e := fun e he => by
    unfold spN
    rw [setN_0a, hdd, hll, hL1]
    by_cases hm : e % 2 ^ l = (hx k % 2 ^ d1) % 2 ^ l
    · rw [if_pos ⟨he, hm⟩, if_pos hm]
    · rw [if_neg (fun q => hm q.2), if_neg hm]
  have hNH : ∀ e, e < 2 ^ d1 → spN F N k 1 e = if e % 2 ^ l = (hx k % 2 ^ d1) % 2 ^ l then 0 else H1 e := fun e he => by
    unfold spN
    rw [setN_1a, hdd, hll, hH1]
    by_cases hm : e % 2 ^ l = (hx k % 2 ^ d1) % 2 ^ l
    · rw [if_pos ⟨he, hm⟩, if_pos hm]
    · rw [if_neg (fun q => hm q.2), if_neg hm]
  have hRE : ∀ e, e < 2 ^ d1 → spE S R BI sz (mx k) e = if e % 2 ^ (l + 1) = (hx k % 2 ^ d1) % 2 ^ l + 2 ^ l then sz + 3 else if e % 2 ^ (l + 1) = (hx k % 2 ^ d1) % 2 ^ l then sz else R1 e := fun e he => by
    unfold spE
    rw [hR1, hspD, hE0, hb, hlc]
    unfold entR
    rw [rhi_mod (mx k) (by omega : l ≤ 30), rlo_mod (mx k) (by omega : l ≤ 30), hmod]
    show (if e < 2 ^ d1 ∧ e % 2 ^ (l + 1) = hx k % 2 ^ l + 2 ^ l then sz + 3 else if e < 2 ^ d1 ∧ e % 2 ^ (l + 1) = hx k % 2 ^ l then sz else R1 e) = _
    by_cases q1 : e % 2 ^ (l + 1) = hx k % 2 ^ l + 2 ^ l
    · rw [if_pos ⟨he, q1⟩, if_pos q1]
    · rw [if_neg (fun q => q1 q.2), if_neg q1]
      by_cases q2 : e % 2 ^ (l + 1) = hx k % 2 ^ l
      · rw [if_pos ⟨he, q2⟩, if_pos q2]
      · rw [if_neg (fun q => q2 q.2), if_neg q2]
  have hPs : ∀ e, e < 2 ^ d1 → R1 e < sz := fun e he => hsz _ (hv1.1 e he).1
  have hndb : NdF (BD 0 b) (BI 3 b) := ndF_perm a6 hn
  rw [hlc]
  have hlo := spL_list (U := BD 1 b) (m := nI (2 ^ l)) (w := true) hndb (BI 3 b) (Nat.le_refl _)
  have hhi := spL_list (U := BD 1 b) (m := nI (2 ^ l)) (w := false) hndb (BI 3 b) (Nat.le_refl _)
  have hlo2 := spL_le (BD 0 b) (BD 1 b) (nI (2 ^ l)) true (BI 3 b)
  have hhi2 := spL_le (BD 0 b) (BD 1 b) (nI (2 ^ l)) false (BI 3 b)
  have a7 := a6
  have hN0 : N 0 (hx k % 2 ^ F 6) = l := hll
  rw [hN0] at a7
  have hme : (hx k % 2 ^ F 6) % 2 ^ l = hx k % 2 ^ l := Nat.mod_mod_of_dvd _ (Nat.pow_dvd_pow 2 (by omega))
  have hplo : (kvl (spL (BD 0 b) (BD 1 b) (nI (2 ^ l)) true (BI 3 b)).1 (spL (BD 0 b) (BD 1 b) (nI (2 ^ l)) true (BI 3 b)).2.1 (spL (BD 0 b) (BD 1 b) (nI (2 ^ l)) true (BI 3 b)).2.2).Perm ((kvl (K 0) (K 1) n).filter (inB (l + 1) (hx k % 2 ^ l))) := by
    rw [hlo]
    refine (a7.filter _).trans ?_
    rw [List.filter_filter, List.filter_congr (fun q _ => inB_lo (by omega : l ≤ 30) hal q _ hme)]
  have hphi : (kvl (spL (BD 0 b) (BD 1 b) (nI (2 ^ l)) false (BI 3 b)).1 (spL (BD 0 b) (BD 1 b) (nI (2 ^ l)) false (BI 3 b)).2.1 (spL (BD 0 b) (BD 1 b) (nI (2 ^ l)) false (BI 3 b)).2.2).Perm ((kvl (K 0) (K 1) n).filter (inB (l + 1) (hx k % 2 ^ l + 2 ^ l))) := by
    rw [hhi]
    refine (a7.filter _).trans ?_
    rw [List.filter_filter, List.filter_congr (fun q _ => inB_hi (by omega : l ≤ 30) hal q _ hme)]
  generalize spL (BD 0 b) (BD 1 b) (nI (2 ^ l)) true (BI 3 b) = lo at *
  generalize spL (BD 0 b) (BD 1 b) (nI (2 ^ l)) false (BI 3 b) = hi at *
  have i1 := @setI_self (setI BI sz (l + 1) lo.2.2 0) (sz + 3) (l + 1) hi.2.2 0
  have i2 : ∀ j, setI (setI BI sz (l + 1) lo.2.2 0) (sz + 3) (l + 1) hi.2.2 0 j sz = setI BI sz (l + 1) lo.2.2 0 j sz := fun j => setI_ne (by omega)
  have i3 := @setI_self BI sz (l + 1) lo.2.2 0
  have d2 : ∀ j, setD (setD BD sz lo.1 lo.2.1) (sz + 3) hi.1 hi.2.1 j sz = setD BD sz lo.1 lo.2.1 j sz := fun j => setD_ne (by omega)
  refine ⟨?_, ?_, ?_⟩
  · refine hv1.split (lo := sz) (hi := sz + 3) hE1 hl1 hlt1 hRE hNL hNH (fun e he => by have := hPs e he; omega) (fun e he => by have := hPs e he; omega) (by omega) ?_ (fun q hq => Or.inl (Or.inl hq)) (Or.inl (Or.inr rfl)) (Or.inr rfl) ?_ ⟨i1.1, i1.2.2, by rw [i1.2.1]; omega⟩ ?_ ?_
    · intro e he j
      have := hPs e he
      rw [setI_ne (by omega), setI_ne (by omega), setD_ne (by omega), setD_ne (by omega)]
      exact ⟨rfl, rfl⟩
    · rw [i2, i2, i2]
      exact ⟨i3.1, i3.2.2, by rw [i3.2.1]; omega⟩
    · rw [i2, d2, d2, i3.2.1, setD_self.1, setD_self.2, hmod]
      exact hplo
    · rw [i1.2.1, setD_self.1, setD_self.2, hmod]
      exact hphi
  · rw [← hc1]
    exact (cntF_split (e0 := hx k % 2 ^ d1) hlt1 hin hNL).symm
  · refine hh1.zero fun e he => ?_
    rw [hNH e he, hRE e he]
    by_cases hm : e % 2 ^ l = (hx k % 2 ^ d1) % 2 ^ l
    · rw [if_pos hm]; exact Or.inl rfl
    · rw [if_neg hm, if_neg, if_neg]
      · exact Or.inr ⟨rfl, rfl⟩
      · intro q
        apply hm
        rw [← Nat.mod_mod_of_dvd e (Nat.pow_dvd_pow 2 (by omega : l ≤ l + 1)), q, Nat.mod_mod]
      · intro q
        apply hm
        rw [← Nat.mod_mod_of_dvd e (Nat.pow_dvd_pow 2 (by omega : l ≤ l + 1)), q, Nat.add_mod_right, Nat.mod_mod]
