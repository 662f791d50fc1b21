section CSG
variable {y sz : Nat} {A : Nat → Nat} {S R DB : Nat → Nat → Nat} {T : Nat → Bool} {BI : Nat → Nat → Nat} {BD : Nat → Nat → Nat → Int32} {P : Nat → Prop} {M G G' : Pic}
theorem CS.liveG {S' R' DB' : Nat → Nat → Nat} (h : CS y sz A S R DB T BI BD P M G) (hs : StAt G' (y + 4) (S' 0 2) (S' 0 3) (S' 0 4) (2 ^ A 1) (drB (A 1)) (R' 0) (DB' 0)) (hS : ∀ j, j ≠ 0 → S' j = S j) (hR : ∀ j, j ≠ 0 → R' j = R j) (hD : ∀ j, j ≠ 0 → DB' j = DB j) (hm : Sm G G' (y + 4)) : CS y sz A S' R' DB' T BI BD P M G' := by
  obtain ⟨⟨a1, a2, a3, a4, a5⟩, ⟨b1, b2⟩, ⟨c1, c2⟩, e⟩ := h
  refine ⟨⟨(hm _ (by omega)).trans a1, hs, fun j hj => ?_, (hm _ (by omega)).trans a4, (hm _ (by omega)).trans a5⟩, ⟨fun b hb => ?_, b2⟩, ⟨fun q h1 h2 => (hm _ (by omega)).trans (c1 q h1 h2), c2⟩, e⟩
  · rw [hS _ (by omega : 1 + j ≠ 0), hR _ (by omega : 1 + j ≠ 0), hD _ (by omega : 1 + j ≠ 0)]
    exact (a3 j hj).sm hm (by omega)
  · obtain ⟨d1, d2, d3⟩ := b1 b hb
    exact ⟨d1.sm hm (by omega), d2, d3⟩
theorem CS.masG {S' R' DB' : Nat → Nat → Nat} {j : Nat} (hj : j < 2) (h : CS y sz A S R DB T BI BD P M G) (hs : StAt G' (y + 8 + 3 * j) (S' (1 + j) 2) (S' (1 + j) 3) (S' (1 + j) 4) (2 ^ A 1) (drB (A 1)) (R' (1 + j)) (DB' (1 + j))) (hS : ∀ i, i ≠ 1 + j → S' i = S i) (hR : ∀ i, i ≠ 1 + j → R' i = R i) (hD : ∀ i, i ≠ 1 + j → DB' i = DB i) (hm : Sm G G' (y + 8 + 3 * j)) : CS y sz A S' R' DB' T BI BD P M G' := by
  obtain ⟨⟨a1, a2, a3, a4, a5⟩, ⟨b1, b2⟩, ⟨c1, c2⟩, e⟩ := h
  refine ⟨⟨(hm _ (by omega)).trans a1, ?_, fun i hi => ?_, (hm _ (by omega)).trans a4, (hm _ (by omega)).trans a5⟩, ⟨fun b hb => ?_, b2⟩, ⟨fun q h1 h2 => (hm _ (by omega)).trans (c1 q h1 h2), c2⟩, e⟩
  · rw [hS _ (by omega : 0 ≠ 1 + j), hR _ (by omega : 0 ≠ 1 + j), hD _ (by omega : 0 ≠ 1 + j)]
    exact a2.sm hm (by omega)
  · by_cases hij : i = j
    · subst hij
      exact hs
    · rw [hS _ (by omega : 1 + i ≠ 1 + j), hR _ (by omega : 1 + i ≠ 1 + j), hD _ (by omega : 1 + i ≠ 1 + j)]
      exact (a3 i hi).sm hm (by omega)
  · obtain ⟨d1, d2, d3⟩ := b1 b hb
    exact ⟨d1.sm hm (by omega), d2, d3⟩
end CSG
theorem va_up_idd {α : Type} (f : Nat → α) (i : Nat) : va_up f i (f i) = f := by
  funext j
  unfold va_up
  by_cases h : j = i
  · subst h; simp
  · rw [if_neg h]
theorem setD_id (BD : Nat → Nat → Nat → Int32) (b : Nat) : setD BD b (BD 0 b) (BD 1 b) = BD := by
  funext j q
  unfold setD
  by_cases h : q = b
  · subst h
    by_cases h0 : j = 0
    · subst h0; simp
    · by_cases h1 : j = 1
      · subst h1; simp
      · simp [h0, h1]
  · simp [h]
/-- a write -/
def wbA (A : Nat → Nat) : Nat → Nat := fun j => if j = 8 then (if A 7 = 1 then 1 else A 8) else if j = 7 then A 7 - 1 else if j = 6 then (if A 7 = 1 ∨ A 8 = 1 then A 6 else A 6 + 1) else A j
theorem AB_wb {A : Nat → Nat} (h : AB A) : AB (wbA A) := by
  obtain ⟨h0, h1, h2, h3, h4, h5⟩ := h
  refine ⟨h0, h1, h2, h3, ?_, ?_⟩
  · show A 7 - 1 < _; omega
  · show (if A 7 = 1 then 1 else A 8) ≤ 1
    split <;> omega
theorem mxd {a : Nat} (ha : a < 2 ^ 31) : (if nI 0 < nI a - nI 1 then nI a - nI 1 else nI 0) = nI (a - 1) := by
  by_cases h : a = 0
  · subst h; decide +kernel
  · rw [pk_sub (by omega : 1 ≤ a), max_nI (by omega) (by omega), Nat.zero_max]
def lff (T : Nat → Bool) : Nat → Nat → Nat
  | 0, b => b
  | n + 1, b => if T b = true then lff T n (b + 1) else b
theorem lff_le (T : Nat → Bool) : ∀ n b, b ≤ lff T n b ∧ lff T n b ≤ b + n
  | 0, b => ⟨Nat.le_refl _, Nat.le_refl _⟩
  | n + 1, b => by
    have := lff_le T n (b + 1)
    unfold lff
    split <;> omega
theorem fl_X2_writeBlock_121 : FL wsX2_writeBlock RX2 121 2 7 := ⟨RX2, TX2, 9, rfl, (fun _ h => List.mem_cons_of_mem _ (List.mem_append_right _ h)), by decide, List.mem_of_getElem? (i := 1) rfl, rfl⟩
theorem fl_X2_writeBlock_50 : FL wsX2_writeBlock RX2 50 2 8 := ⟨RX2, TX2, 9, rfl, (fun _ h => List.mem_cons_of_mem _ (List.mem_append_right _ h)), by decide, List.mem_of_getElem? (i := 2) rfl, rfl⟩
theorem fl_X2_writeBlock_131 : FL wsX2_writeBlock RX2 131 2 6 := ⟨RX2, TX2, 9, rfl, (fun _ h => List.mem_cons_of_mem _ (List.mem_append_right _ h)), by decide, List.mem_of_getElem? (i := 7) rfl, rfl⟩
set_option maxHeartbeats 4000000 in
set_option maxRecDepth 100000 in
theorem c_X2_writeBlock (l : Launch) (w : Wd) (y sz : Nat) (G : Pic) (A : Nat → Nat) (hG : G y = some (xO y A)) (hab : AB A) : Ct l w yX2_writeBlock wsX2_writeBlock ⟨1, 0, 0, 20⟩ [.ref (y)] G sz (rt (some (.int (bI (decide (¬ (A 7 = 1 ∨ A 8 = 1)))))) (gup G y (xO y (wbA A))) sz) := by
  refine Ct.of (cc := cX2_writeBlock) (maxL := 1) (ret := (some .boolean)) (L := [some (.ref (y))]) (by decide +kernel) rfl (by simp [Value.category]) (by simp) rfl ?_
  intro p e s m args below meth c k hM
  obtain ⟨hA0, hA0b, hA1, hA5, hA7, hA8⟩ := hab
  refine V.aload_n k dX2_writeBlock_0 rfl ?_
  refine V.getf (v := .int (nI (A 7))) k dX2_writeBlock_1 fl_X2_writeBlock_121 (hG) rfl ?_
  refine V.iconst (v := nI 1) k dX2_writeBlock_4 (by decide) ?_
  refine V.n_ne (tgt := 13) k dX2_writeBlock_5 (by decide) (by omega) (by omega) (fun hq => ?_) (fun hq => ?_)
  · refine V.aload_n k dX2_writeBlock_13 rfl ?_
    refine V.iconst (v := nI 0) k dX2_writeBlock_14 (by decide) ?_
    refine V.aload_n k dX2_writeBlock_15 rfl ?_
    refine V.getf (v := .int (nI (A 7))) k dX2_writeBlock_16 fl_X2_writeBlock_121 (hG) rfl ?_
    refine V.iconst (v := nI 1) k dX2_writeBlock_19 (by decide) ?_
    refine V.isub (v := (nI (A 7) - nI 1)) k dX2_writeBlock_20 (rfl) ?_
    refine V.mmax (v := (nI (A 7 - 1))) k dX2_writeBlock_21 (List.mem_of_getElem? (i := 3) rfl) (List.mem_of_getElem? (i := 4) rfl) (List.mem_of_getElem? (i := 5) rfl) (List.mem_of_getElem? (i := 6) rfl) rfl (Nat.le_of_ble_eq_true rfl) (Nat.le_of_ble_eq_true rfl) (Nat.le_of_ble_eq_true rfl) (Nat.le_of_ble_eq_true rfl) (mxd hA7) ?_
    refine V.putf (fs' := [.int (nI (A 0)), .int (nI (A 1)), .ref (y + 4), .ref (y + 7), .ref (y + 14), .int (nI (A 5)), .int (nI (A 6)), .int (nI (A 7 - 1)), .int (nI (A 8))]) k dX2_writeBlock_24 fl_X2_writeBlock_121 ft_X2_7 (hG) (by first | rfl | decide) rfl (Nat.le_of_ble_eq_true rfl) rfl ?_
    refine V.aload_n k dX2_writeBlock_27 rfl ?_
    refine V.getf (v := .int (nI (A 8))) k dX2_writeBlock_28 fl_X2_writeBlock_50 (gup_self _ _ _) rfl ?_
    refine V.z_eq (tgt := 36) k dX2_writeBlock_31 (by decide) (by omega) (fun hd => ?_) (fun hd => ?_)
    · rw [show decide (¬ (A 7 = 1 ∨ A 8 = 1)) = true from decide_eq_true (by omega)]
      refine V.aload_n k dX2_writeBlock_36 rfl ?_
      refine V.dup k dX2_writeBlock_37 rfl ?_
      refine V.getf (v := .int (nI (A 6))) k dX2_writeBlock_38 fl_X2_writeBlock_131 (gup_self _ _ _) rfl ?_
      refine V.iconst (v := nI 1) k dX2_writeBlock_41 (by decide) ?_
      refine V.iadd (v := (nI (A 6 + 1))) k dX2_writeBlock_42 (nI_add _ _) ?_
      refine V.putf (fs' := [.int (nI (A 0)), .int (nI (A 1)), .ref (y + 4), .ref (y + 7), .ref (y + 14), .int (nI (A 5)), .int (nI (A 6 + 1)), .int (nI (A 7 - 1)), .int (nI (A 8))]) k dX2_writeBlock_43 fl_X2_writeBlock_131 ft_X2_6 (gup_self _ _ _) (by first | rfl | decide) rfl (Nat.le_of_ble_eq_true rfl) rfl ?_
      refine V.iconst (v := nI 1) k dX2_writeBlock_46 (by decide) ?_
      refine V.pic (show _ = gup G y (xO y (wbA A)) from by (try simp only [gup_gup]); congr 1; simp [xO, wbA, hq, hd]) ?_
      exact V.zret k hM dX2_writeBlock_47 (by first | rfl | decide) (Nat.le_of_ble_eq_true rfl) (Nat.le_of_ble_eq_true rfl) (rt_ok)
    · rw [show decide (¬ (A 7 = 1 ∨ A 8 = 1)) = false from decide_eq_false (by omega)]
      refine V.iconst (v := nI 0) k dX2_writeBlock_34 (by decide) ?_
      have hd1 : A 8 = 1 := by omega
      refine V.pic (show _ = gup G y (xO y (wbA A)) from by (try simp only [gup_gup]); congr 1; simp [xO, wbA, hq, hd1]) ?_
      exact V.zret k hM dX2_writeBlock_35 (by first | rfl | decide) (Nat.le_of_ble_eq_true rfl) (Nat.le_of_ble_eq_true rfl) (rt_ok)
  · refine V.aload_n k dX2_writeBlock_8 rfl ?_
    refine V.iconst (v := nI 1) k dX2_writeBlock_9 (by decide) ?_
    refine V.putf (fs' := [.int (nI (A 0)), .int (nI (A 1)), .ref (y + 4), .ref (y + 7), .ref (y + 14), .int (nI (A 5)), .int (nI (A 6)), .int (nI (A 7)), .int (nI (1))]) k dX2_writeBlock_10 fl_X2_writeBlock_50 ft_X2_8 (hG) (by first | rfl | decide) rfl (Nat.le_of_ble_eq_true rfl) rfl ?_
    refine V.aload_n k dX2_writeBlock_13 rfl ?_
    refine V.iconst (v := nI 0) k dX2_writeBlock_14 (by decide) ?_
    refine V.aload_n k dX2_writeBlock_15 rfl ?_
    refine V.getf (v := .int (nI (A 7))) k dX2_writeBlock_16 fl_X2_writeBlock_121 (gup_self _ _ _) rfl ?_
    refine V.iconst (v := nI 1) k dX2_writeBlock_19 (by decide) ?_
    refine V.isub (v := (nI (A 7) - nI 1)) k dX2_writeBlock_20 (rfl) ?_
    refine V.mmax (v := (nI (A 7 - 1))) k dX2_writeBlock_21 (List.mem_of_getElem? (i := 3) rfl) (List.mem_of_getElem? (i := 4) rfl) (List.mem_of_getElem? (i := 5) rfl) (List.mem_of_getElem? (i := 6) rfl) rfl (Nat.le_of_ble_eq_true rfl) (Nat.le_of_ble_eq_true rfl) (Nat.le_of_ble_eq_true rfl) (Nat.le_of_ble_eq_true rfl) (mxd hA7) ?_
    refine V.putf (fs' := [.int (nI (A 0)), .int (nI (A 1)), .ref (y + 4), .ref (y + 7), .ref (y + 14), .int (nI (A 5)), .int (nI (A 6)), .int (nI (A 7 - 1)), .int (nI (1))]) k dX2_writeBlock_24 fl_X2_writeBlock_121 ft_X2_7 (gup_self _ _ _) (by first | rfl | decide) rfl (Nat.le_of_ble_eq_true rfl) rfl ?_
    refine V.aload_n k dX2_writeBlock_27 rfl ?_
    refine V.getf (v := .int (nI (1))) k dX2_writeBlock_28 fl_X2_writeBlock_50 (gup_self _ _ _) rfl ?_
    refine V.z_eq (tgt := 36) k dX2_writeBlock_31 (by decide) (by omega) (fun hd => ?_) (fun hd => ?_)
    · exact absurd hd (by omega)
    · rw [show decide (¬ (A 7 = 1 ∨ A 8 = 1)) = false from decide_eq_false (by omega)]
      refine V.iconst (v := nI 0) k dX2_writeBlock_34 (by decide) ?_
      refine V.pic (show _ = gup G y (xO y (wbA A)) from by (try simp only [gup_gup]); congr 1; simp [xO, wbA, hq]) ?_
      exact V.zret k hM dX2_writeBlock_35 (by first | rfl | decide) (Nat.le_of_ble_eq_true rfl) (Nat.le_of_ble_eq_true rfl) (rt_ok)
theorem fl_X2_takeLeastFree_18 : FL wsX2_takeLeastFree RX2 18 2 0 := ⟨RX2, TX2, 9, rfl, (fun _ h => List.mem_cons_of_mem _ (List.mem_append_right _ h)), by decide, List.mem_of_getElem? (i := 1) rfl, rfl⟩
theorem fl_X2_takeLeastFree_46 : FL wsX2_takeLeastFree RX2 46 2 4 := ⟨RX2, TX2, 9, rfl, (fun _ h => List.mem_cons_of_mem _ (List.mem_append_right _ h)), by decide, List.mem_of_getElem? (i := 2) rfl, rfl⟩
set_option maxHeartbeats 4000000 in
set_option maxRecDepth 100000 in
theorem c_X2_takeLeastFree (l : Launch) (w : Wd) (y sz : Nat) (A : Nat → Nat) (S R DB : Nat → Nat → Nat) (T : Nat → Bool) (BI : Nat → Nat → Nat) (BD : Nat → Nat → Nat → Int32) (P : Nat → Prop) (M G : Pic) (hC : CS y sz A S R DB T BI BD P M G) : Ct l w yX2_takeLeastFree wsX2_takeLeastFree ⟨0, 0, 0, 0⟩ [.ref (y)] G sz (rt (some (.int (nI (lff T (A 0 - 3) 2)))) (gup G (y + 14) (gZ (A 0) (fun j => bI (va_up T (lff T (A 0 - 3) 2) true j)))) sz) := by
  refine Ct.of (cc := cX2_takeLeastFree) (maxL := 2) (ret := (some .int)) (L := [some (.ref (y)), none]) (by decide +kernel) rfl (by simp [Value.category]) (by simp) rfl ?_
  intro p e s m args below meth c k hM
  have hab := hC.ab
  obtain ⟨hA0, hA0b, hA1, hA5, hA7, hA8⟩ := hab
  have hsz := hC.2.2.1.2
  generalize hF : lff T (A 0 - 3) 2 = F0
  have lp : ∀ (nq i : Nat) , i ≤ A 0 - 1 → A 0 - 1 - i < nq → (2 ≤ i ∧ lff T (A 0 - 1 - i) i = F0) → V p l e ⟨0, 0, 0, 0⟩ s m args below meth c w G sz 0 0 (mQ w below args s ⟨0, 0, 0, 0⟩ (rt (some (.int (nI (F0)))) (gup G (y + 14) (gZ (A 0) (fun j => bI (va_up T (F0) true j)))) sz)) 2 [some (.ref (y)), some (.int (nI (i)))] [] := by
    intro nq
    induction nq with
    | zero => intro i  h1 h2 hI; omega
    | succ nq ih =>
      intro i  h1 h2 hI
      obtain ⟨hi2, h3⟩ := hI
      refine V.iload_n k dX2_takeLeastFree_2 rfl ?_
      refine V.aload_n k dX2_takeLeastFree_3 rfl ?_
      refine V.getf (v := .int (nI (A 0))) k dX2_takeLeastFree_4 fl_X2_takeLeastFree_18 (hC.1.1) rfl ?_
      refine V.iconst (v := nI 1) k dX2_takeLeastFree_7 (by decide) ?_
      refine V.isub (v := (nI (A 0 - 1))) k dX2_takeLeastFree_8 (pk_sub (by omega)) ?_
      refine V.n_ge (tgt := 27) k dX2_takeLeastFree_9 (by decide) (by omega) (by omega) (fun hb => ?_) (fun hb => ?_)
      · have hi : i = F0 := by rw [show A 0 - 1 - i = 0 by omega] at h3; exact h3
        subst hi
        refine V.aload_n k dX2_takeLeastFree_27 rfl ?_
        refine V.getf (v := .ref (y + 14)) k dX2_takeLeastFree_28 fl_X2_takeLeastFree_46 (hC.1.1) rfl ?_
        refine V.iload_n k dX2_takeLeastFree_31 rfl ?_
        refine V.iconst (v := nI 1) k dX2_takeLeastFree_32 (by decide) ?_
        refine V.zast (x := bI (true)) (f' := fun j => bI ((va_up (T) (i) (true)) j)) k dX2_takeLeastFree_33 (hC.1.2.2.2.2) rfl (by omega) (by omega) (bI_nar _) (upd_bI _ _ _) ?_
        refine V.iload_n k dX2_takeLeastFree_34 rfl ?_
        exact V.iret k hM dX2_takeLeastFree_35 (Nat.le_of_ble_eq_true rfl) (Nat.le_of_ble_eq_true rfl) (rt_ok)
      · rw [show A 0 - 1 - i = (A 0 - 1 - (i + 1)) + 1 by omega] at h3
        unfold lff at h3
        refine V.aload_n k dX2_takeLeastFree_12 rfl ?_
        refine V.getf (v := .ref (y + 14)) k dX2_takeLeastFree_13 fl_X2_takeLeastFree_46 (hC.1.1) rfl ?_
        refine V.iload_n k dX2_takeLeastFree_16 rfl ?_
        refine V.zald (v := (bI (T (i)))) k dX2_takeLeastFree_17 (hC.1.2.2.2.2) rfl (by omega) (by omega) (rfl) ?_
        refine V.b_eq (tgt := 27) k dX2_takeLeastFree_18 (by decide) (fun ht => ?_) (fun ht => ?_)
        · have hi : i = F0 := by rw [if_neg (by rw [ht]; decide)] at h3; exact h3
          subst hi
          refine V.aload_n k dX2_takeLeastFree_27 rfl ?_
          refine V.getf (v := .ref (y + 14)) k dX2_takeLeastFree_28 fl_X2_takeLeastFree_46 (hC.1.1) rfl ?_
          refine V.iload_n k dX2_takeLeastFree_31 rfl ?_
          refine V.iconst (v := nI 1) k dX2_takeLeastFree_32 (by decide) ?_
          refine V.zast (x := bI (true)) (f' := fun j => bI ((va_up (T) (i) (true)) j)) k dX2_takeLeastFree_33 (hC.1.2.2.2.2) rfl (by omega) (by omega) (bI_nar _) (upd_bI _ _ _) ?_
          refine V.iload_n k dX2_takeLeastFree_34 rfl ?_
          exact V.iret k hM dX2_takeLeastFree_35 (Nat.le_of_ble_eq_true rfl) (Nat.le_of_ble_eq_true rfl) (rt_ok)
        · rw [if_pos ht] at h3
          refine V.iinc (x := (nI (i))) (v := (nI (i + 1))) (L' := [some (.ref (y)), some (.int (nI (i + 1)))]) k dX2_takeLeastFree_21 rfl (nI_inc1 _) rfl ?_
          refine V.goto (tgt := 2) k dX2_takeLeastFree_24 (by decide) ?_
          exact ih (i + 1) (by omega) (by omega) ⟨by omega, h3⟩
  refine V.iconst (v := nI 2) k dX2_takeLeastFree_0 (by decide) ?_
  refine V.istore_n (L' := [some (.ref (y)), some (.int (nI (2)))]) k dX2_takeLeastFree_1 (Nat.le_of_ble_eq_true rfl) rfl ?_
  exact lp (A 0) 2 (by omega) (by omega) ⟨Nat.le_refl _, by rw [← hF]; congr 1⟩
theorem drB_mono {a b : Nat} (h : a ≤ b) : drB a ≤ drB b := by
  unfold drB
  have h1 := Nat.two_pow_pos (b - 5)
  have h2 : 2 ^ (a - 5) ≤ 2 ^ (b - 5) := Nat.pow_le_pow_right (by omega) (by omega)
  split <;> split <;> omega
theorem fl_X2_takeSynced_18 : FL wsX2_takeSynced RX2 18 2 0 := ⟨RX2, TX2, 9, rfl, (fun _ h => List.mem_cons_of_mem _ (List.mem_append_left _ (List.mem_append_left _ (List.mem_append_right _ h)))), by decide, List.mem_of_getElem? (i := 1) rfl, rfl⟩
theorem fl_X2_takeSynced_46 : FL wsX2_takeSynced RX2 46 2 4 := ⟨RX2, TX2, 9, rfl, (fun _ h => List.mem_cons_of_mem _ (List.mem_append_left _ (List.mem_append_left _ (List.mem_append_right _ h)))), by decide, List.mem_of_getElem? (i := 2) rfl, rfl⟩
theorem fl_X2_takeSynced_42 : FL wsX2_takeSynced RX2 42 2 3 := ⟨RX2, TX2, 9, rfl, (fun _ h => List.mem_cons_of_mem _ (List.mem_append_left _ (List.mem_append_left _ (List.mem_append_right _ h)))), by decide, List.mem_of_getElem? (i := 3) rfl, rfl⟩
theorem fl_X2_takeSynced_124 : FL wsX2_takeSynced RX2 124 2 5 := ⟨RX2, TX2, 9, rfl, (fun _ h => List.mem_cons_of_mem _ (List.mem_append_left _ (List.mem_append_left _ (List.mem_append_right _ h)))), by decide, List.mem_of_getElem? (i := 4) rfl, rfl⟩
theorem fl_X2_takeSynced_177 : FL wsX2_takeSynced RX2 177 1 0 := ⟨RX1, TX1, 5, rfl, (fun _ h => List.mem_cons_of_mem _ (List.mem_append_left _ (List.mem_append_right _ h))), by decide, List.mem_of_getElem? (i := 5) rfl, rfl⟩
theorem fl_X2_takeSynced_30 : FL wsX2_takeSynced RX2 30 0 4 := ⟨RX0, TX0, 5, rfl, (fun _ h => List.mem_cons_of_mem _ (List.mem_append_right _ h)), by decide, List.mem_of_getElem? (i := 6) rfl, rfl⟩
theorem fl_X2_takeSynced_115 : FL wsX2_takeSynced RX2 115 1 2 := ⟨RX1, TX1, 5, rfl, (fun _ h => List.mem_cons_of_mem _ (List.mem_append_left _ (List.mem_append_right _ h))), by decide, List.mem_of_getElem? (i := 7) rfl, rfl⟩
theorem fl_X2_takeSynced_181 : FL wsX2_takeSynced RX2 181 1 1 := ⟨RX1, TX1, 5, rfl, (fun _ h => List.mem_cons_of_mem _ (List.mem_append_left _ (List.mem_append_right _ h))), by decide, List.mem_of_getElem? (i := 8) rfl, rfl⟩
set_option maxHeartbeats 4000000 in
set_option maxRecDepth 100000 in
theorem c_X2_takeSynced (l : Launch) (w : Wd) (y sz : Nat) (A : Nat → Nat) (S R DB : Nat → Nat → Nat) (T : Nat → Bool) (BI : Nat → Nat → Nat) (BD : Nat → Nat → Nat → Int32) (P : Nat → Prop) (M G : Pic) (hC : CS y sz A S R DB T BI BD P M G) (hm2 : S (1 + A 5) 2 ≤ A 1) (hRm : ∀ e, e < 2 ^ S (1 + A 5) 2 → P (R (1 + A 5) e) ∧ BI 4 (R (1 + A 5) e) < A 0) (hDm : ∀ k, k < drB (S (1 + A 5) 2) → DB (1 + A 5) k < A 0) : Ct l w yX2_takeSynced wsX2_takeSynced ⟨1, 0, 0, 20⟩ [.ref (y)] G sz (fun v G' sz' => v = none ∧ sz' = sz ∧ CS y sz A S R DB (stF (fun k => DB (1 + A 5) k) (stF (fun e => BI 4 (R (1 + A 5) e)) (cpT (fun j => decide (j < 2)) T (A 0)) (2 ^ S (1 + A 5) 2)) (drB (S (1 + A 5) 2))) BI BD P M G') := by
  refine Ct.of (cc := cX2_takeSynced) (maxL := 3) (ret := none) (L := [some (.ref (y)), none, none]) (by decide +kernel) rfl (by simp [Value.category]) (by simp) rfl ?_
  intro p e s m args below meth c k hM
  have hab := hC.ab
  obtain ⟨hA0, hA0b, hA1, hA5, hA7, hA8⟩ := hab
  have hsz := hC.2.2.1.2
  have hpw : 2 ^ S (1 + A 5) 2 ≤ 2 ^ A 1 := Nat.pow_le_pow_right (by omega) hm2
  have hpA := p2le hA1
  have hpp := p2pos (S (1 + A 5) 2)
  have hdr := drB_le (show S (1 + A 5) 2 ≤ 8 by omega)
  have hdr2 : drB (S (1 + A 5) 2) ≤ drB (A 1) := drB_mono hm2
  have hdr3 := drB_le hA1
  have lp3 : ∀ (nq i : Nat) (G2 : Pic), i ≤ drB (S (1 + A 5) 2) → drB (S (1 + A 5) 2) - i < nq → (CS y sz A S R DB (stF (fun k => DB (1 + A 5) k) (stF (fun e => BI 4 (R (1 + A 5) e)) (cpT (fun j => decide (j < 2)) T (A 0)) (2 ^ S (1 + A 5) 2)) (i)) BI BD P M G2) → V p l e ⟨1, 0, 0, 20⟩ s m args below meth c w G2 sz 0 0 (mQ w below args s ⟨1, 0, 0, 20⟩ (fun v G' sz' => v = none ∧ sz' = sz ∧ CS y sz A S R DB (stF (fun k => DB (1 + A 5) k) (stF (fun e => BI 4 (R (1 + A 5) e)) (cpT (fun j => decide (j < 2)) T (A 0)) (2 ^ S (1 + A 5) 2)) (drB (S (1 + A 5) 2))) BI BD P M G')) 75 [some (.ref (y)), some (.ref (y + 8 + 3 * A 5)), some (.int (nI (i)))] [] := by
    intro nq
    induction nq with
    | zero => intro i G2 h1 h2 hI; omega
    | succ nq ih =>
      intro i G2 h1 h2 hI
      refine V.iload_n k dX2_takeSynced_75 rfl ?_
      refine V.aload_n k dX2_takeSynced_76 rfl ?_
      refine V.getf (v := .int (nI (S (1 + A 5) 2))) k dX2_takeSynced_77 fl_X2_takeSynced_115 (hI.mas.1) rfl ?_
      refine V.cS (As := [.int (nI (S (1 + A 5) 2))]) (st1 := [.int (nI (drB (S (1 + A 5) 2))), .int (nI (i))]) k dX2_takeSynced_80 (c_X2_blocksOfDirectory l w G2 sz _ (show S (1 + A 5) 2 ≤ 8 by omega)) gX2_takeSynced_X2_blocksOfDirectory rfl hd_X2_blocksOfDirectory ⟨⟨Nat.le_of_ble_eq_true rfl, Nat.le_of_ble_eq_true rfl⟩, Nat.le_of_ble_eq_true rfl, Nat.le_of_ble_eq_true rfl⟩ rfl rfl rfl (Nat.le_of_ble_eq_true rfl) rfl ?_
      refine V.n_ge (tgt := 104) k dX2_takeSynced_83 (by decide) (by omega) (by omega) (fun hb => ?_) (fun hb => ?_)
      · have hi : i = drB (S (1 + A 5) 2) := by omega
        subst hi
        exact V.vret k hM dX2_takeSynced_104 (Nat.le_of_ble_eq_true rfl) (Nat.le_of_ble_eq_true rfl) (⟨rfl, rfl, hI⟩)
      · have hdi := hDm i hb
        refine V.aload_n k dX2_takeSynced_86 rfl ?_
        refine V.getf (v := .ref (y + 14)) k dX2_takeSynced_87 fl_X2_takeSynced_46 (hI.1.1) rfl ?_
        refine V.aload_n k dX2_takeSynced_90 rfl ?_
        refine V.getf (v := .ref (y + 8 + 3 * A 5 + 2)) k dX2_takeSynced_91 fl_X2_takeSynced_181 (hI.mas.1) rfl ?_
        refine V.iload_n k dX2_takeSynced_94 rfl ?_
        refine V.iald (v := (nI ((DB (1 + A 5)) (i)))) k dX2_takeSynced_95 (hI.mas.2.2) rfl (by omega) (by omega) (rfl) ?_
        refine V.iconst (v := nI 1) k dX2_takeSynced_96 (by decide) ?_
        refine V.zast (x := bI (true)) (f' := fun j => bI ((va_up ((stF (fun k => DB (1 + A 5) k) (stF (fun e => BI 4 (R (1 + A 5) e)) (cpT (fun j => decide (j < 2)) T (A 0)) (2 ^ S (1 + A 5) 2)) (i))) ((DB (1 + A 5)) (i)) (true)) j)) k dX2_takeSynced_97 (hI.1.2.2.2.2) rfl (hdi) (by omega) (bI_nar _) (upd_bI _ _ _) ?_
        refine V.iinc (x := (nI (i))) (v := (nI (i + 1))) (L' := [some (.ref (y)), some (.ref (y + 8 + 3 * A 5)), some (.int (nI (i + 1)))]) k dX2_takeSynced_98 rfl (nI_inc1 _) rfl ?_
        refine V.goto (tgt := 75) k dX2_takeSynced_101 (by decide) ?_
        exact ih (i + 1) _ (by omega) (by omega) hI.putT
  have lp2 : ∀ (nq i : Nat) (G2 : Pic), i ≤ 2 ^ S (1 + A 5) 2 → 2 ^ S (1 + A 5) 2 - i < nq → (CS y sz A S R DB (stF (fun e => BI 4 (R (1 + A 5) e)) (cpT (fun j => decide (j < 2)) T (A 0)) (i)) BI BD P M G2) → V p l e ⟨1, 0, 0, 20⟩ s m args below meth c w G2 sz 0 0 (mQ w below args s ⟨1, 0, 0, 20⟩ (fun v G' sz' => v = none ∧ sz' = sz ∧ CS y sz A S R DB (stF (fun k => DB (1 + A 5) k) (stF (fun e => BI 4 (R (1 + A 5) e)) (cpT (fun j => decide (j < 2)) T (A 0)) (2 ^ S (1 + A 5) 2)) (drB (S (1 + A 5) 2))) BI BD P M G')) 44 [some (.ref (y)), some (.ref (y + 8 + 3 * A 5)), some (.int (nI (i)))] [] := by
    intro nq
    induction nq with
    | zero => intro i G2 h1 h2 hI; omega
    | succ nq ih =>
      intro i G2 h1 h2 hI
      refine V.iload_n k dX2_takeSynced_44 rfl ?_
      refine V.aload_n k dX2_takeSynced_45 rfl ?_
      refine V.cV (As := []) (ci := 1) (st1 := [.int (nI (2 ^ S (1 + A 5) 2)), .int (nI (i))]) k dX2_takeSynced_46 (c_X1_entries l w _ sz G2 _ _ _ _ _ _ _ hI.mas (by omega) (by omega) (by omega)) gX2_takeSynced_X1_entries rfl rfl (hI.mas.1) ⟨rfl, hd_X1_entries⟩ ⟨⟨Nat.le_of_ble_eq_true rfl, Nat.le_of_ble_eq_true rfl⟩, Nat.le_of_ble_eq_true rfl, Nat.le_of_ble_eq_true rfl⟩ rfl rfl rfl (Nat.le_of_ble_eq_true rfl) rfl ?_
      refine V.n_ge (tgt := 73) k dX2_takeSynced_49 (by decide) (by omega) (by omega) (fun hb => ?_) (fun hb => ?_)
      · have hi : i = 2 ^ S (1 + A 5) 2 := by omega
        subst hi
        refine V.iconst (v := nI 0) k dX2_takeSynced_73 (by decide) ?_
        refine V.istore_n (L' := [some (.ref (y)), some (.ref (y + 8 + 3 * A 5)), some (.int (nI (0)))]) k dX2_takeSynced_74 (Nat.le_of_ble_eq_true rfl) rfl ?_
        exact lp3 (drB (S (1 + A 5) 2) + 1) 0 G2 (by omega) (by omega) hI
      · obtain ⟨hbp, hbl⟩ := hRm i hb
        refine V.aload_n k dX2_takeSynced_52 rfl ?_
        refine V.getf (v := .ref (y + 14)) k dX2_takeSynced_53 fl_X2_takeSynced_46 (hI.1.1) rfl ?_
        refine V.aload_n k dX2_takeSynced_56 rfl ?_
        refine V.getf (v := .ref (y + 8 + 3 * A 5 + 1)) k dX2_takeSynced_57 fl_X2_takeSynced_177 (hI.mas.1) rfl ?_
        refine V.iload_n k dX2_takeSynced_60 rfl ?_
        refine V.bald (b := R (1 + A 5) i) k dX2_takeSynced_61 (hI.mas.2.1) rfl (by omega) (by omega) (rfl) ?_
        refine V.getf (v := .int (nI (BI 4 (R (1 + A 5) i)))) k dX2_takeSynced_62 fl_X2_takeSynced_30 ((hI.bk hbp).1) rfl ?_
        refine V.iconst (v := nI 1) k dX2_takeSynced_65 (by decide) ?_
        refine V.zast (x := bI (true)) (f' := fun j => bI ((va_up ((stF (fun e => BI 4 (R (1 + A 5) e)) (cpT (fun j => decide (j < 2)) T (A 0)) (i))) (BI 4 (R (1 + A 5) i)) (true)) j)) k dX2_takeSynced_66 (hI.1.2.2.2.2) rfl (hbl) (by omega) (bI_nar _) (upd_bI _ _ _) ?_
        refine V.iinc (x := (nI (i))) (v := (nI (i + 1))) (L' := [some (.ref (y)), some (.ref (y + 8 + 3 * A 5)), some (.int (nI (i + 1)))]) k dX2_takeSynced_67 rfl (nI_inc1 _) rfl ?_
        refine V.goto (tgt := 44) k dX2_takeSynced_70 (by decide) ?_
        exact ih (i + 1) _ (by omega) (by omega) hI.putT
  have lp1 : ∀ (nq i : Nat) (G2 : Pic), i ≤ A 0 → A 0 - i < nq → (CS y sz A S R DB (cpT (fun j => decide (j < 2)) T (i)) BI BD P M G2) → V p l e ⟨1, 0, 0, 20⟩ s m args below meth c w G2 sz 0 0 (mQ w below args s ⟨1, 0, 0, 20⟩ (fun v G' sz' => v = none ∧ sz' = sz ∧ CS y sz A S R DB (stF (fun k => DB (1 + A 5) k) (stF (fun e => BI 4 (R (1 + A 5) e)) (cpT (fun j => decide (j < 2)) T (A 0)) (2 ^ S (1 + A 5) 2)) (drB (S (1 + A 5) 2))) BI BD P M G')) 2 [some (.ref (y)), some (.int (nI (i))), none] [] := by
    intro nq
    induction nq with
    | zero => intro i G2 h1 h2 hI; omega
    | succ nq ih =>
      intro i G2 h1 h2 hI
      refine V.iload_n k dX2_takeSynced_2 rfl ?_
      refine V.aload_n k dX2_takeSynced_3 rfl ?_
      refine V.getf (v := .int (nI (A 0))) k dX2_takeSynced_4 fl_X2_takeSynced_18 (hI.1.1) rfl ?_
      refine V.n_ge (tgt := 32) k dX2_takeSynced_7 (by decide) (by omega) (by omega) (fun hb => ?_) (fun hb => ?_)
      · have hi : i = A 0 := by omega
        subst hi
        refine V.aload_n k dX2_takeSynced_32 rfl ?_
        refine V.getf (v := .ref (y + 7)) k dX2_takeSynced_33 fl_X2_takeSynced_42 (hI.1.1) rfl ?_
        refine V.aload_n k dX2_takeSynced_36 rfl ?_
        refine V.getf (v := .int (nI (A 5))) k dX2_takeSynced_37 fl_X2_takeSynced_124 (hI.1.1) rfl ?_
        refine V.sald (b := y + 8 + 3 * A 5) k dX2_takeSynced_40 (hI.1.2.2.2.1) rfl (by omega) (by omega) (rfl) ?_
        refine V.astore_n (L' := [some (.ref (y)), some (.ref (y + 8 + 3 * A 5)), none]) k dX2_takeSynced_41 (Nat.le_of_ble_eq_true rfl) rfl ?_
        refine V.iconst (v := nI 0) k dX2_takeSynced_42 (by decide) ?_
        refine V.istore_n (L' := [some (.ref (y)), some (.ref (y + 8 + 3 * A 5)), some (.int (nI (0)))]) k dX2_takeSynced_43 (Nat.le_of_ble_eq_true rfl) rfl ?_
        exact lp2 (2 ^ S (1 + A 5) 2 + 1) 0 G2 (by omega) (by omega) hI
      · refine V.aload_n k dX2_takeSynced_10 rfl ?_
        refine V.getf (v := .ref (y + 14)) k dX2_takeSynced_11 fl_X2_takeSynced_46 (hI.1.1) rfl ?_
        refine V.iload_n k dX2_takeSynced_14 rfl ?_
        refine V.iload_n k dX2_takeSynced_15 rfl ?_
        refine V.iconst (v := nI 2) k dX2_takeSynced_16 (by decide) ?_
        refine V.n_ge (tgt := 24) k dX2_takeSynced_17 (by decide) (by omega) (by omega) (fun hq => ?_) (fun hq => ?_)
        · refine V.iconst (v := nI 0) k dX2_takeSynced_24 (by decide) ?_
          refine V.zast (x := bI (false)) (f' := fun j => bI ((va_up ((cpT (fun j => decide (j < 2)) T (i))) (i) (false)) j)) k dX2_takeSynced_25 (hI.1.2.2.2.2) rfl (by omega) (by omega) (bI_nar _) (upd_bI _ _ _) ?_
          refine V.iinc (x := (nI (i))) (v := (nI (i + 1))) (L' := [some (.ref (y)), some (.int (nI (i + 1))), none]) k dX2_takeSynced_26 rfl (nI_inc1 _) rfl ?_
          refine V.goto (tgt := 2) k dX2_takeSynced_29 (by decide) ?_
          refine ih (i + 1) _ (by omega) (by omega) ?_
          have hT : (cpT (fun j => decide (j < 2)) T (i + 1)) = va_up (cpT (fun j => decide (j < 2)) T (i)) i false := by rw [← cpT_s, show decide (i < 2) = false from decide_eq_false (by omega)]
          rw [hT]
          exact hI.putT
        · refine V.iconst (v := nI 1) k dX2_takeSynced_20 (by decide) ?_
          refine V.goto (tgt := 25) k dX2_takeSynced_21 (by decide) ?_
          refine V.zast (x := bI (true)) (f' := fun j => bI ((va_up ((cpT (fun j => decide (j < 2)) T (i))) (i) (true)) j)) k dX2_takeSynced_25 (hI.1.2.2.2.2) rfl (by omega) (by omega) (bI_nar _) (upd_bI _ _ _) ?_
          refine V.iinc (x := (nI (i))) (v := (nI (i + 1))) (L' := [some (.ref (y)), some (.int (nI (i + 1))), none]) k dX2_takeSynced_26 rfl (nI_inc1 _) rfl ?_
          refine V.goto (tgt := 2) k dX2_takeSynced_29 (by decide) ?_
          refine ih (i + 1) _ (by omega) (by omega) ?_
          have hT : (cpT (fun j => decide (j < 2)) T (i + 1)) = va_up (cpT (fun j => decide (j < 2)) T (i)) i true := by rw [← cpT_s, show decide (i < 2) = true from decide_eq_true hq]
          rw [hT]
          exact hI.putT
  refine V.iconst (v := nI 0) k dX2_takeSynced_0 (by decide) ?_
  refine V.istore_n (L' := [some (.ref (y)), some (.int (nI (0))), none]) k dX2_takeSynced_1 (Nat.le_of_ble_eq_true rfl) rfl ?_
  exact lp1 (A 0 + 1) 0 G (by omega) (by omega) (by rw [cpT_0]; exact hC)
def wbS (R0 : Nat → Nat) (A : Nat → Nat) (T : Nat → Bool) (BI : Nat → Nat → Nat) : Nat → (Nat → Nat) × (Nat → Bool) × (Nat → Nat → Nat)
  | 0 => (A, T, BI)
  | e + 1 => if (wbS R0 A T BI e).2.2 4 (R0 e) = 0 then (wbA (wbS R0 A T BI e).1, va_up (wbS R0 A T BI e).2.1 (lff (wbS R0 A T BI e).2.1 (A 0 - 3) 2) true, setI (wbS R0 A T BI e).2.2 (R0 e) ((wbS R0 A T BI e).2.2 0 (R0 e)) ((wbS R0 A T BI e).2.2 3 (R0 e)) (lff (wbS R0 A T BI e).2.1 (A 0 - 3) 2)) else wbS R0 A T BI e
theorem wbS_A0 (R0 : Nat → Nat) (A : Nat → Nat) (T : Nat → Bool) (BI : Nat → Nat → Nat) : ∀ e, (wbS R0 A T BI e).1 0 = A 0
  | 0 => rfl
  | e + 1 => by
    have ih := wbS_A0 R0 A T BI e
    unfold wbS
    split
    · exact ih
    · exact ih
theorem wbS_B4 (R0 : Nat → Nat) (A : Nat → Nat) (T : Nat → Bool) (BI : Nat → Nat → Nat) (hA : A 0 ≤ 200) (h0 : ∀ b, BI 4 b < 2 ^ 31) : ∀ e b, (wbS R0 A T BI e).2.2 4 b < 2 ^ 31
  | 0, b => h0 b
  | e + 1, b => by
    have ih := wbS_B4 R0 A T BI hA h0 e
    have hl := lff_le (wbS R0 A T BI e).2.1 (A 0 - 3) 2
    unfold wbS
    split
    · show setI _ _ _ _ _ 4 b < _
      unfold setI
      by_cases hb : b = R0 e
      · rw [if_pos hb, if_neg (by omega), if_neg (by omega), if_pos rfl]; omega
      · rw [if_neg hb]; exact ih b
    · exact ih b
def wdS (A : Nat → Nat) (T : Nat → Bool) (D0 : Nat → Nat) : Nat → (Nat → Nat) × (Nat → Bool) × (Nat → Nat)
  | 0 => (A, T, D0)
  | e + 1 => (wbA (wdS A T D0 e).1, va_up (wdS A T D0 e).2.1 (lff (wdS A T D0 e).2.1 (A 0 - 3) 2) true, va_up (wdS A T D0 e).2.2 e (lff (wdS A T D0 e).2.1 (A 0 - 3) 2))
theorem wdS_A0 (A : Nat → Nat) (T : Nat → Bool) (D0 : Nat → Nat) : ∀ e, (wdS A T D0 e).1 0 = A 0
  | 0 => rfl
  | e + 1 => wdS_A0 A T D0 e
theorem fl_X2_writeBuckets_38 : FL wsX2_writeBuckets RX2 38 2 2 := ⟨RX2, TX2, 9, rfl, (fun _ h => List.mem_cons_of_mem _ (List.mem_append_left _ (List.mem_append_left _ (List.mem_append_right _ h)))), by decide, List.mem_of_getElem? (i := 1) rfl, rfl⟩
theorem fl_X2_writeBuckets_177 : FL wsX2_writeBuckets RX2 177 1 0 := ⟨RX1, TX1, 5, rfl, (fun _ h => List.mem_cons_of_mem _ (List.mem_append_left _ (List.mem_append_right _ h))), by decide, List.mem_of_getElem? (i := 2) rfl, rfl⟩
theorem fl_X2_writeBuckets_30 : FL wsX2_writeBuckets RX2 30 0 4 := ⟨RX0, TX0, 5, rfl, (fun _ h => List.mem_cons_of_mem _ (List.mem_append_right _ h)), by decide, List.mem_of_getElem? (i := 3) rfl, rfl⟩
set_option maxHeartbeats 4000000 in
set_option maxRecDepth 100000 in
theorem c_X2_writeBuckets (l : Launch) (w : Wd) (y sz : Nat) (A : Nat → Nat) (S R DB : Nat → Nat → Nat) (T : Nat → Bool) (BI : Nat → Nat → Nat) (BD : Nat → Nat → Nat → Int32) (P : Nat → Prop) (M G : Pic) (hC : CS y sz A S R DB T BI BD P M G) (hS2 : S 0 2 ≤ A 1) (hR : ∀ e, e < 2 ^ S 0 2 → P (R 0 e)) (hB0 : ∀ b, BI 4 b < 2 ^ 31) : Ct l w yX2_writeBuckets wsX2_writeBuckets ⟨2, 0, 0, 40⟩ [.ref (y)] G sz (fun v G' sz' => v = none ∧ sz' = sz ∧ CS y sz (wbS (R 0) A T BI (2 ^ S 0 2)).1 S R DB (wbS (R 0) A T BI (2 ^ S 0 2)).2.1 (wbS (R 0) A T BI (2 ^ S 0 2)).2.2 BD P M G') := by
  refine Ct.of (cc := cX2_writeBuckets) (maxL := 3) (ret := none) (L := [some (.ref (y)), none, none]) (by decide +kernel) rfl (by simp [Value.category]) (by simp) rfl ?_
  intro p e s m args below meth c k hM
  have hab := hC.ab
  obtain ⟨hA0, hA0b, hA1, hA5, hA7, hA8⟩ := hab
  have hsz := hC.2.2.1.2
  have hpw : 2 ^ S 0 2 ≤ 2 ^ A 1 := Nat.pow_le_pow_right (by omega) hS2
  have hpA := p2le hA1
  have hpp := p2pos (S 0 2)
  have lp : ∀ (nq i : Nat) (A2 : Nat → Nat) (T2 : Nat → Bool) (BI2 : Nat → Nat → Nat) (G2 : Pic), i ≤ 2 ^ S 0 2 → 2 ^ S 0 2 - i < nq → ((A2, T2, BI2) = wbS (R 0) A T BI i ∧ A2 1 = A 1 ∧ CS y sz A2 S R DB T2 BI2 BD P M G2) → V p l e ⟨2, 0, 0, 40⟩ s m args below meth c w G2 sz 0 0 (mQ w below args s ⟨2, 0, 0, 40⟩ (fun v G' sz' => v = none ∧ sz' = sz ∧ CS y sz (wbS (R 0) A T BI (2 ^ S 0 2)).1 S R DB (wbS (R 0) A T BI (2 ^ S 0 2)).2.1 (wbS (R 0) A T BI (2 ^ S 0 2)).2.2 BD P M G')) 2 [some (.ref (y)), some (.int (nI (i))), none] [] := by
    intro nq
    induction nq with
    | zero => intro i A2 T2 BI2 G2 h1 h2 hI; omega
    | succ nq ih =>
      intro i A2 T2 BI2 G2 h1 h2 hI
      obtain ⟨he, h1A, hI⟩ := hI
      have h0A : A2 0 = A 0 := by have := wbS_A0 (R 0) A T BI i; rw [← he] at this; exact this
      have hpA2 : 2 ^ A2 1 ≤ 256 := by rw [h1A]; exact hpA
      refine V.iload_n k dX2_writeBuckets_2 rfl ?_
      refine V.aload_n k dX2_writeBuckets_3 rfl ?_
      refine V.getf (v := .ref (y + 4)) k dX2_writeBuckets_4 fl_X2_writeBuckets_38 (hI.1.1) rfl ?_
      refine V.cV (As := []) (ci := 1) (st1 := [.int (nI (2 ^ S 0 2)), .int (nI (i))]) k dX2_writeBuckets_7 (c_X1_entries l w _ sz G2 _ _ _ _ _ _ _ hI.1.2.1 (by omega) (by rw [h1A]; omega) (by rw [h1A]; omega)) gX2_writeBuckets_X1_entries rfl rfl (hI.1.2.1.1) ⟨rfl, hd_X1_entries⟩ ⟨⟨Nat.le_of_ble_eq_true rfl, Nat.le_of_ble_eq_true rfl⟩, Nat.le_of_ble_eq_true rfl, Nat.le_of_ble_eq_true rfl⟩ rfl rfl rfl (Nat.le_of_ble_eq_true rfl) rfl ?_
      refine V.n_ge (tgt := 49) k dX2_writeBuckets_10 (by decide) (by omega) (by omega) (fun hb => ?_) (fun hb => ?_)
      · have hi : i = 2 ^ S 0 2 := by omega
        subst hi
        exact V.vret k hM dX2_writeBuckets_49 (Nat.le_of_ble_eq_true rfl) (Nat.le_of_ble_eq_true rfl) (⟨rfl, rfl, by rw [← he]; exact hI⟩)
      · have hbp := hR i hb
        have hat := hI.at hbp
        refine V.aload_n k dX2_writeBuckets_13 rfl ?_
        refine V.getf (v := .ref (y + 4)) k dX2_writeBuckets_14 fl_X2_writeBuckets_38 (hI.1.1) rfl ?_
        refine V.getf (v := .ref (y + 5)) k dX2_writeBuckets_17 fl_X2_writeBuckets_177 (hI.1.2.1.1) rfl ?_
        refine V.iload_n k dX2_writeBuckets_20 rfl ?_
        refine V.bald (b := R 0 i) k dX2_writeBuckets_21 (hI.1.2.1.2.1) rfl (by rw [h1A]; omega) (by omega) (rfl) ?_
        refine V.astore_n (L' := [some (.ref (y)), some (.int (nI (i))), some (.ref (R 0 i))]) k dX2_writeBuckets_22 (Nat.le_of_ble_eq_true rfl) rfl ?_
        refine V.aload_n k dX2_writeBuckets_23 rfl ?_
        refine V.getf (v := .int (nI (BI2 4 (R 0 i)))) k dX2_writeBuckets_24 fl_X2_writeBuckets_30 ((hI.bk hbp).1) rfl ?_
        have hb4 : BI2 4 (R 0 i) < 2 ^ 31 := by have := wbS_B4 (R 0) A T BI hA0b hB0 i (R 0 i); rw [← he] at this; exact this
        refine V.z_ne (tgt := 43) k dX2_writeBuckets_27 (by decide) (by omega) (fun hz => ?_) (fun hz => ?_)
        · refine V.iinc (x := (nI (i))) (v := (nI (i + 1))) (L' := [some (.ref (y)), some (.int (nI (i + 1))), some (.ref (R 0 i))]) k dX2_writeBuckets_43 rfl (nI_inc1 _) rfl ?_
          refine V.dropL 2 (L' := [some (.ref (y)), some (.int (nI (i + 1))), none]) rfl ?_
          refine V.goto (tgt := 2) k dX2_writeBuckets_46 (by decide) ?_
          refine ih (i + 1) A2 T2 BI2 G2 (by omega) (by omega) ⟨?_, h1A, hI⟩
          rw [wbS, ← he, if_neg (show ¬ BI2 4 (R 0 i) = 0 by omega)]
        · refine V.aload_n k dX2_writeBuckets_30 rfl ?_
          refine V.aload_n k dX2_writeBuckets_31 rfl ?_
          refine V.cV (As := []) (ci := 2) (st1 := [.int (nI (lff T2 (A2 0 - 3) 2)), .ref (R 0 i)]) k dX2_writeBuckets_32 (c_X2_takeLeastFree l w y sz A2 S R DB T2 BI2 BD P M G2 hI) gX2_writeBuckets_X2_takeLeastFree rfl rfl (hI.1.1) ⟨rfl, hd_X2_takeLeastFree⟩ ⟨⟨Nat.le_of_ble_eq_true rfl, Nat.le_of_ble_eq_true rfl⟩, Nat.le_of_ble_eq_true rfl, Nat.le_of_ble_eq_true rfl⟩ rfl rfl rfl (Nat.le_of_ble_eq_true rfl) rfl ?_
          have hC3 := hI.putT (T' := va_up T2 (lff T2 (A2 0 - 3) 2) true)
          generalize hG3 : gup G2 (y + 14) (gZ (A2 0) (fun j => bI (va_up T2 (lff T2 (A2 0 - 3) 2) true j))) = G3 at hC3 ⊢
          refine V.putf (fs' := [.int (nI (BI2 0 (R 0 i))), .ref (R 0 i + 1), .ref (R 0 i + 2), .int (nI (BI2 3 (R 0 i))), .int (nI (lff T2 (A2 0 - 3) 2))]) k dX2_writeBuckets_35 fl_X2_writeBuckets_30 ft_X0_4 ((hC3.bk hbp).1) (by first | rfl | decide) rfl (Nat.le_of_ble_eq_true rfl) rfl ?_
          have hC4 := hC3.bkt hbp (G' := (gup G3 (R 0 i) (gO 0 [.int (nI (BI2 0 (R 0 i))), .ref (R 0 i + 1), .ref (R 0 i + 2), .int (nI (BI2 3 (R 0 i))), .int (nI (lff T2 (A2 0 - 3) 2))]))) ⟨gup_self _ _ _, (gup_ne _ _ (by omega)).trans (hC3.bk hbp).2.1, (gup_ne _ _ (by omega)).trans (hC3.bk hbp).2.2⟩ (Sm.up _ (by omega))
          rw [setD_id] at hC4
          generalize (gup G3 (R 0 i) (gO 0 [.int (nI (BI2 0 (R 0 i))), .ref (R 0 i + 1), .ref (R 0 i + 2), .int (nI (BI2 3 (R 0 i))), .int (nI (lff T2 (A2 0 - 3) 2))])) = G4 at hC4 ⊢
          refine V.aload_n k dX2_writeBuckets_38 rfl ?_
          refine V.cV (As := []) (ci := 2) (st1 := [.int (bI (decide (¬ (A2 7 = 1 ∨ A2 8 = 1))))]) k dX2_writeBuckets_39 (c_X2_writeBlock l w y sz G4 A2 hC4.1.1 hC4.ab) gX2_writeBuckets_X2_writeBlock rfl rfl (hC4.1.1) ⟨rfl, hd_X2_writeBlock⟩ ⟨⟨Nat.le_of_ble_eq_true rfl, Nat.le_of_ble_eq_true rfl⟩, Nat.le_of_ble_eq_true rfl, Nat.le_of_ble_eq_true rfl⟩ rfl rfl rfl (Nat.le_of_ble_eq_true rfl) rfl ?_
          refine V.pop k dX2_writeBuckets_42 rfl ?_
          refine V.iinc (x := (nI (i))) (v := (nI (i + 1))) (L' := [some (.ref (y)), some (.int (nI (i + 1))), some (.ref (R 0 i))]) k dX2_writeBuckets_43 rfl (nI_inc1 _) rfl ?_
          refine V.dropL 2 (L' := [some (.ref (y)), some (.int (nI (i + 1))), none]) rfl ?_
          refine V.goto (tgt := 2) k dX2_writeBuckets_46 (by decide) ?_
          refine ih (i + 1) _ _ _ _ (by omega) (by omega) ⟨?_, ?_, hC4.putA rfl rfl (AB_wb hC4.ab)⟩
          · rw [wbS, ← he, if_pos hz, h0A]
          · exact h1A
  refine V.iconst (v := nI 0) k dX2_writeBuckets_0 (by decide) ?_
  refine V.istore_n (L' := [some (.ref (y)), some (.int (nI (0))), none]) k dX2_writeBuckets_1 (Nat.le_of_ble_eq_true rfl) rfl ?_
  exact lp (2 ^ S 0 2 + 1) 0 A T BI G (by omega) (by omega) ⟨rfl, rfl, hC⟩
theorem fl_X2_writeDirectory_38 : FL wsX2_writeDirectory RX2 38 2 2 := ⟨RX2, TX2, 9, rfl, (fun _ h => List.mem_cons_of_mem _ (List.mem_append_left _ (List.mem_append_right _ h))), by decide, List.mem_of_getElem? (i := 1) rfl, rfl⟩
theorem fl_X2_writeDirectory_115 : FL wsX2_writeDirectory RX2 115 1 2 := ⟨RX1, TX1, 5, rfl, (fun _ h => List.mem_cons_of_mem _ (List.mem_append_right _ h)), by decide, List.mem_of_getElem? (i := 2) rfl, rfl⟩
theorem fl_X2_writeDirectory_181 : FL wsX2_writeDirectory RX2 181 1 1 := ⟨RX1, TX1, 5, rfl, (fun _ h => List.mem_cons_of_mem _ (List.mem_append_right _ h)), by decide, List.mem_of_getElem? (i := 3) rfl, rfl⟩
set_option maxHeartbeats 4000000 in
set_option maxRecDepth 100000 in
theorem c_X2_writeDirectory (l : Launch) (w : Wd) (y sz : Nat) (A : Nat → Nat) (S R DB : Nat → Nat → Nat) (T : Nat → Bool) (BI : Nat → Nat → Nat) (BD : Nat → Nat → Nat → Int32) (P : Nat → Prop) (M G : Pic) (hC : CS y sz A S R DB T BI BD P M G) (hS2 : S 0 2 ≤ A 1) : Ct l w yX2_writeDirectory wsX2_writeDirectory ⟨2, 0, 0, 40⟩ [.ref (y)] G sz (fun v G' sz' => v = none ∧ sz' = sz ∧ CS y sz (wdS A T (DB 0) (drB (S 0 2))).1 S R (va_up DB 0 (wdS A T (DB 0) (drB (S 0 2))).2.2) (wdS A T (DB 0) (drB (S 0 2))).2.1 BI BD P M G') := by
  refine Ct.of (cc := cX2_writeDirectory) (maxL := 2) (ret := none) (L := [some (.ref (y)), none]) (by decide +kernel) rfl (by simp [Value.category]) (by simp) rfl ?_
  intro p e s m args below meth c k hM
  have hab := hC.ab
  obtain ⟨hA0, hA0b, hA1, hA5, hA7, hA8⟩ := hab
  have hsz := hC.2.2.1.2
  have hdr := drB_le (show S 0 2 ≤ 8 by omega)
  have hdr2 : drB (S 0 2) ≤ drB (A 1) := drB_mono hS2
  have hdr3 := drB_le hA1
  have lp : ∀ (nq i : Nat) (A2 : Nat → Nat) (T2 : Nat → Bool) (D2 : Nat → Nat) (G2 : Pic), i ≤ drB (S 0 2) → drB (S 0 2) - i < nq → ((A2, T2, D2) = wdS A T (DB 0) i ∧ A2 1 = A 1 ∧ CS y sz A2 S R (va_up DB 0 D2) T2 BI BD P M G2) → V p l e ⟨2, 0, 0, 40⟩ s m args below meth c w G2 sz 0 0 (mQ w below args s ⟨2, 0, 0, 40⟩ (fun v G' sz' => v = none ∧ sz' = sz ∧ CS y sz (wdS A T (DB 0) (drB (S 0 2))).1 S R (va_up DB 0 (wdS A T (DB 0) (drB (S 0 2))).2.2) (wdS A T (DB 0) (drB (S 0 2))).2.1 BI BD P M G')) 2 [some (.ref (y)), some (.int (nI (i)))] [] := by
    intro nq
    induction nq with
    | zero => intro i A2 T2 D2 G2 h1 h2 hI; omega
    | succ nq ih =>
      intro i A2 T2 D2 G2 h1 h2 hI
      obtain ⟨he, h1A, hI⟩ := hI
      have h0A : A2 0 = A 0 := by have := wdS_A0 A T (DB 0) i; rw [← he] at this; exact this
      refine V.iload_n k dX2_writeDirectory_2 rfl ?_
      refine V.aload_n k dX2_writeDirectory_3 rfl ?_
      refine V.getf (v := .ref (y + 4)) k dX2_writeDirectory_4 fl_X2_writeDirectory_38 (hI.1.1) rfl ?_
      refine V.getf (v := .int (nI (S 0 2))) k dX2_writeDirectory_7 fl_X2_writeDirectory_115 (hI.1.2.1.1) rfl ?_
      refine V.cS (As := [.int (nI (S 0 2))]) (st1 := [.int (nI (drB (S 0 2))), .int (nI (i))]) k dX2_writeDirectory_10 (c_X2_blocksOfDirectory l w G2 sz _ (show S 0 2 ≤ 8 by omega)) gX2_writeDirectory_X2_blocksOfDirectory rfl hd_X2_blocksOfDirectory ⟨⟨Nat.le_of_ble_eq_true rfl, Nat.le_of_ble_eq_true rfl⟩, Nat.le_of_ble_eq_true rfl, Nat.le_of_ble_eq_true rfl⟩ rfl rfl rfl (Nat.le_of_ble_eq_true rfl) rfl ?_
      refine V.n_ge (tgt := 40) k dX2_writeDirectory_13 (by decide) (by omega) (by omega) (fun hb => ?_) (fun hb => ?_)
      · have hi : i = drB (S 0 2) := by omega
        subst hi
        exact V.vret k hM dX2_writeDirectory_40 (Nat.le_of_ble_eq_true rfl) (Nat.le_of_ble_eq_true rfl) (⟨rfl, rfl, by rw [← he]; exact hI⟩)
      · refine V.aload_n k dX2_writeDirectory_16 rfl ?_
        refine V.getf (v := .ref (y + 4)) k dX2_writeDirectory_17 fl_X2_writeDirectory_38 (hI.1.1) rfl ?_
        refine V.getf (v := .ref (y + 6)) k dX2_writeDirectory_20 fl_X2_writeDirectory_181 (hI.1.2.1.1) rfl ?_
        refine V.iload_n k dX2_writeDirectory_23 rfl ?_
        refine V.aload_n k dX2_writeDirectory_24 rfl ?_
        refine V.cV (As := []) (ci := 2) (st1 := [.int (nI (lff T2 (A2 0 - 3) 2)), .int (nI (i)), .ref (y + 6)]) k dX2_writeDirectory_25 (c_X2_takeLeastFree l w y sz A2 S R _ T2 BI BD P M G2 hI) gX2_writeDirectory_X2_takeLeastFree rfl rfl (hI.1.1) ⟨rfl, hd_X2_takeLeastFree⟩ ⟨⟨Nat.le_of_ble_eq_true rfl, Nat.le_of_ble_eq_true rfl⟩, Nat.le_of_ble_eq_true rfl, Nat.le_of_ble_eq_true rfl⟩ rfl rfl rfl (Nat.le_of_ble_eq_true rfl) rfl ?_
        have hC3 := hI.putT (T' := va_up T2 (lff T2 (A2 0 - 3) 2) true)
        generalize hG3 : gup G2 (y + 14) (gZ (A2 0) (fun j => bI (va_up T2 (lff T2 (A2 0 - 3) 2) true j))) = G3 at hC3 ⊢
        refine V.iast (f' := fun j => nI ((va_up (D2) (i) (lff T2 (A2 0 - 3) 2)) j)) k dX2_writeDirectory_28 (hC3.1.2.1.2.2) rfl (by rw [h1A]; omega) (by rw [h1A]; omega) (upd_nI _ _ _) ?_
        have hC4 := hC3.liveG (S' := S) (R' := R) (DB' := va_up DB 0 (va_up D2 i (lff T2 (A2 0 - 3) 2))) (G' := (gup G3 (y + 6) (gI (drB (A2 1)) (fun j => nI ((va_up (D2) (i) (lff T2 (A2 0 - 3) 2)) j))))) ⟨(gup_ne _ _ (by omega)).trans hC3.1.2.1.1, (gup_ne _ _ (by omega)).trans hC3.1.2.1.2.1, gup_self _ _ _⟩ (fun _ _ => rfl) (fun _ _ => rfl) (fun j hj => by rw [va_up_ne _ _ hj, va_up_ne _ _ hj]) (Sm.up _ (by omega))
        generalize (gup G3 (y + 6) (gI (drB (A2 1)) (fun j => nI ((va_up (D2) (i) (lff T2 (A2 0 - 3) 2)) j)))) = G4 at hC4 ⊢
        refine V.aload_n k dX2_writeDirectory_29 rfl ?_
        refine V.cV (As := []) (ci := 2) (st1 := [.int (bI (decide (¬ (A2 7 = 1 ∨ A2 8 = 1))))]) k dX2_writeDirectory_30 (c_X2_writeBlock l w y sz G4 A2 hC4.1.1 hC4.ab) gX2_writeDirectory_X2_writeBlock rfl rfl (hC4.1.1) ⟨rfl, hd_X2_writeBlock⟩ ⟨⟨Nat.le_of_ble_eq_true rfl, Nat.le_of_ble_eq_true rfl⟩, Nat.le_of_ble_eq_true rfl, Nat.le_of_ble_eq_true rfl⟩ rfl rfl rfl (Nat.le_of_ble_eq_true rfl) rfl ?_
        refine V.pop k dX2_writeDirectory_33 rfl ?_
        refine V.iinc (x := (nI (i))) (v := (nI (i + 1))) (L' := [some (.ref (y)), some (.int (nI (i + 1)))]) k dX2_writeDirectory_34 rfl (nI_inc1 _) rfl ?_
        refine V.goto (tgt := 2) k dX2_writeDirectory_37 (by decide) ?_
        refine ih (i + 1) _ _ _ _ (by omega) (by omega) ⟨?_, ?_, hC4.putA rfl rfl (AB_wb hC4.ab)⟩
        · rw [wdS, ← he, h0A]
        · exact h1A
  refine V.iconst (v := nI 0) k dX2_writeDirectory_0 (by decide) ?_
  refine V.istore_n (L' := [some (.ref (y)), some (.int (nI (0)))]) k dX2_writeDirectory_1 (Nat.le_of_ble_eq_true rfl) rfl ?_
  exact lp (drB (S 0 2) + 1) 0 A T (DB 0) G (by omega) (by omega) ⟨rfl, rfl, by rw [va_up_idd]; exact hC⟩
