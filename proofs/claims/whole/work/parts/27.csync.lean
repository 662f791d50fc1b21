def wcT (A : Nat → Nat) (S R DB : Nat → Nat → Nat) (T : Nat → Bool) (BI : Nat → Nat → Nat) : Nat → Bool := stF (fun k => DB (1 + A 5) k) (stF (fun e => BI 4 (R (1 + A 5) e)) (cpT (fun j => decide (j < 2)) T (A 0)) (2 ^ S (1 + A 5) 2)) (drB (S (1 + A 5) 2))
def wcW (A : Nat → Nat) (S R DB : Nat → Nat → Nat) (T : Nat → Bool) (BI : Nat → Nat → Nat) : (Nat → Nat) × (Nat → Bool) × (Nat → Nat → Nat) := wbS (R 0) A (wcT A S R DB T BI) BI (2 ^ S 0 2)
def wcD (A : Nat → Nat) (S R DB : Nat → Nat → Nat) (T : Nat → Bool) (BI : Nat → Nat → Nat) : (Nat → Nat) × (Nat → Bool) × (Nat → Nat) := wdS (wcW A S R DB T BI).1 (wcW A S R DB T BI).2.1 (DB 0) (drB (S 0 2))
theorem wbS_fix (R0 : Nat → Nat) (A : Nat → Nat) (T : Nat → Bool) (BI : Nat → Nat → Nat) (j : Nat) (hj : j < 6) : ∀ e, (wbS R0 A T BI e).1 j = A j
  | 0 => rfl
  | e + 1 => by
    have ih := wbS_fix R0 A T BI j hj e
    unfold wbS
    split
    · show wbA _ j = _
      unfold wbA
      rw [if_neg (by omega), if_neg (by omega), if_neg (by omega)]
      exact ih
    · exact ih
theorem wdS_fix (A : Nat → Nat) (T : Nat → Bool) (D0 : Nat → Nat) (j : Nat) (hj : j < 6) : ∀ e, (wdS A T D0 e).1 j = A j
  | 0 => rfl
  | e + 1 => by
    have ih := wdS_fix A T D0 j hj e
    show wbA _ j = _
    unfold wbA
    rw [if_neg (by omega), if_neg (by omega), if_neg (by omega)]
    exact ih
theorem wcA_fix (A : Nat → Nat) (S R DB : Nat → Nat → Nat) (T : Nat → Bool) (BI : Nat → Nat → Nat) (j : Nat) (hj : j < 6) : wbA (wcD A S R DB T BI).1 j = A j := by
  have e : wbA (wcD A S R DB T BI).1 j = (wcD A S R DB T BI).1 j := by
    unfold wbA
    rw [if_neg (by omega), if_neg (by omega), if_neg (by omega)]
  rw [e]
  unfold wcD
  rw [wdS_fix _ _ _ j hj]
  unfold wcW
  exact wbS_fix _ _ _ _ j hj _
/-- what a sync needs of the class -/
def WcOk (A : Nat → Nat) (S R DB : Nat → Nat → Nat) (BI : Nat → Nat → Nat) (P : Nat → Prop) : Prop :=
  S 0 2 ≤ A 1 ∧ (∀ e, e < 2 ^ S 0 2 → P (R 0 e) ∧ BI 0 (R 0 e) ≤ 8) ∧ (∀ b, BI 4 b < 2 ^ 31) ∧ 2 + S (1 + A 5) 3 + drB (S (1 + A 5) 2) ≤ A 0 ∧ (∀ j, j < 2 → S (1 + j) 2 ≤ A 1) ∧ (∀ e, e < 2 ^ S (1 + A 5) 2 → P (R (1 + A 5) e) ∧ BI 4 (R (1 + A 5) e) < A 0) ∧ (∀ k, k < drB (S (1 + A 5) 2) → DB (1 + A 5) k < A 0)
theorem fl_X2_writeChanges_38 : FL wsX2_writeChanges RX2 38 2 2 := ⟨RX2, TX2, 9, rfl, (fun _ h => List.mem_cons_of_mem _ (List.mem_append_left _ (List.mem_append_left _ (List.mem_append_right _ h)))), by decide, List.mem_of_getElem? (i := 1) rfl, rfl⟩
theorem fl_X2_writeChanges_115 : FL wsX2_writeChanges RX2 115 1 2 := ⟨RX1, TX1, 5, rfl, (fun _ h => List.mem_cons_of_mem _ (List.mem_append_left _ (List.mem_append_right _ h))), by decide, List.mem_of_getElem? (i := 2) rfl, rfl⟩
theorem fl_X2_writeChanges_124 : FL wsX2_writeChanges RX2 124 2 5 := ⟨RX2, TX2, 9, rfl, (fun _ h => List.mem_cons_of_mem _ (List.mem_append_left _ (List.mem_append_left _ (List.mem_append_right _ h)))), by decide, List.mem_of_getElem? (i := 5) rfl, rfl⟩
theorem fl_X2_writeChanges_42 : FL wsX2_writeChanges RX2 42 2 3 := ⟨RX2, TX2, 9, rfl, (fun _ h => List.mem_cons_of_mem _ (List.mem_append_left _ (List.mem_append_left _ (List.mem_append_right _ h)))), by decide, List.mem_of_getElem? (i := 6) rfl, rfl⟩
set_option maxHeartbeats 4000000 in
set_option maxRecDepth 100000 in
theorem c_X2_writeChanges_0 (l : Launch) (w : Wd) (y sz : Nat) (A : Nat → Nat) (S R DB : Nat → Nat → Nat) (T : Nat → Bool) (BI : Nat → Nat → Nat) (BD : Nat → Nat → Nat → Int32) (P : Nat → Prop) (M G : Pic) (hC : CS y sz A S R DB T BI BD P M G) (hw : WcOk A S R DB BI P) (hn : cntC (fun e => BI 0 (R 0 e)) (fun e => BI 4 (R 0 e)) (2 ^ S 0 2) = 0) : Ct l w yX2_writeChanges wsX2_writeChanges ⟨3, 0, 0, 62⟩ [.ref (y)] G sz (rt (some (.int (nI 0))) G sz) := by
  refine Ct.of (cc := cX2_writeChanges) (maxL := 2) (ret := (some .int)) (L := [some (.ref (y)), none]) (by decide +kernel) rfl (by simp [Value.category]) (by simp) rfl ?_
  intro p e s m args below meth c k hM
  have hab := hC.ab
  obtain ⟨hA0, hA0b, hA1, hA5, hA7, hA8⟩ := hab
  have hsz := hC.2.2.1.2
  obtain ⟨hS2, hR, hB0, hfr, hSm, hRm, hDm⟩ := hw
  have hmm := hSm (A 5) (by omega)
  have hpw : 2 ^ S 0 2 ≤ 2 ^ A 1 := Nat.pow_le_pow_right (by omega) hS2
  have hpA := p2le hA1
  have hpp := p2pos (S 0 2)
  have hdr := drB_le (show S 0 2 ≤ 8 by omega)
  have hdr3 := drB_le hA1
  have hcc := cntC_le (fun e => BI 0 (R 0 e)) (fun e => BI 4 (R 0 e)) (2 ^ S 0 2)
  refine V.aload_n k dX2_writeChanges_0 rfl ?_
  refine V.getf (v := .ref (y + 4)) k dX2_writeChanges_1 fl_X2_writeChanges_38 (hC.1.1) rfl ?_
  refine V.cV (As := []) (ci := 1) (st1 := [.int (nI (cntC (fun e => BI 0 (R 0 e)) (fun e => BI 4 (R 0 e)) (2 ^ S 0 2)))]) k dX2_writeChanges_4 (c_X1_changedBuckets l w (y + 4) sz G _ _ _ _ _ _ _ hC.1.2.1 (by omega) (by omega) (by omega) (fun e => BI 0 (R 0 e)) (fun e => BI 4 (R 0 e)) (fun j hj => ⟨⟨_, _, _, (hC.bk (hR j hj).1).1⟩, by have := (hR j hj).2; omega, hB0 _⟩)) gX2_writeChanges_X1_changedBuckets rfl rfl (hC.1.2.1.1) ⟨rfl, hd_X1_changedBuckets⟩ ⟨⟨Nat.le_of_ble_eq_true rfl, Nat.le_of_ble_eq_true rfl⟩, Nat.le_of_ble_eq_true rfl, Nat.le_of_ble_eq_true rfl⟩ rfl rfl rfl (Nat.le_of_ble_eq_true rfl) rfl ?_
  refine V.istore_n (L' := [some (.ref (y)), some (.int (nI (cntC (fun e => BI 0 (R 0 e)) (fun e => BI 4 (R 0 e)) (2 ^ S 0 2))))]) k dX2_writeChanges_7 (Nat.le_of_ble_eq_true rfl) rfl ?_
  refine V.iload_n k dX2_writeChanges_8 rfl ?_
  refine V.z_ne (tgt := 14) k dX2_writeChanges_9 (by decide) (by omega) (fun hz => ?_) (fun hz => ?_)
  · exact absurd hz (by omega)
  · refine V.iconst (v := nI 0) k dX2_writeChanges_12 (by decide) ?_
    exact V.iret k hM dX2_writeChanges_13 (Nat.le_of_ble_eq_true rfl) (Nat.le_of_ble_eq_true rfl) (rt_ok)
set_option maxHeartbeats 4000000 in
set_option maxRecDepth 100000 in
theorem c_X2_writeChanges_nr (l : Launch) (w : Wd) (y sz : Nat) (A : Nat → Nat) (S R DB : Nat → Nat → Nat) (T : Nat → Bool) (BI : Nat → Nat → Nat) (BD : Nat → Nat → Nat → Int32) (P : Nat → Prop) (M G : Pic) (hC : CS y sz A S R DB T BI BD P M G) (hw : WcOk A S R DB BI P) (hn : 0 < cntC (fun e => BI 0 (R 0 e)) (fun e => BI 4 (R 0 e)) (2 ^ S 0 2)) (hf : A 0 - 2 - S (1 + A 5) 3 - drB (S (1 + A 5) 2) < cntC (fun e => BI 0 (R 0 e)) (fun e => BI 4 (R 0 e)) (2 ^ S 0 2) + drB (S 0 2)) : Ct l w yX2_writeChanges wsX2_writeChanges ⟨3, 0, 0, 62⟩ [.ref (y)] G sz (rt (some (.int (-2000000001))) G sz) := by
  refine Ct.of (cc := cX2_writeChanges) (maxL := 2) (ret := (some .int)) (L := [some (.ref (y)), none]) (by decide +kernel) rfl (by simp [Value.category]) (by simp) rfl ?_
  intro p e s m args below meth c k hM
  have hab := hC.ab
  obtain ⟨hA0, hA0b, hA1, hA5, hA7, hA8⟩ := hab
  have hsz := hC.2.2.1.2
  obtain ⟨hS2, hR, hB0, hfr, hSm, hRm, hDm⟩ := hw
  have hmm := hSm (A 5) (by omega)
  have hpw : 2 ^ S 0 2 ≤ 2 ^ A 1 := Nat.pow_le_pow_right (by omega) hS2
  have hpA := p2le hA1
  have hpp := p2pos (S 0 2)
  have hdr := drB_le (show S 0 2 ≤ 8 by omega)
  have hdr3 := drB_le hA1
  have hcc := cntC_le (fun e => BI 0 (R 0 e)) (fun e => BI 4 (R 0 e)) (2 ^ S 0 2)
  refine V.aload_n k dX2_writeChanges_0 rfl ?_
  refine V.getf (v := .ref (y + 4)) k dX2_writeChanges_1 fl_X2_writeChanges_38 (hC.1.1) rfl ?_
  refine V.cV (As := []) (ci := 1) (st1 := [.int (nI (cntC (fun e => BI 0 (R 0 e)) (fun e => BI 4 (R 0 e)) (2 ^ S 0 2)))]) k dX2_writeChanges_4 (c_X1_changedBuckets l w (y + 4) sz G _ _ _ _ _ _ _ hC.1.2.1 (by omega) (by omega) (by omega) (fun e => BI 0 (R 0 e)) (fun e => BI 4 (R 0 e)) (fun j hj => ⟨⟨_, _, _, (hC.bk (hR j hj).1).1⟩, by have := (hR j hj).2; omega, hB0 _⟩)) gX2_writeChanges_X1_changedBuckets rfl rfl (hC.1.2.1.1) ⟨rfl, hd_X1_changedBuckets⟩ ⟨⟨Nat.le_of_ble_eq_true rfl, Nat.le_of_ble_eq_true rfl⟩, Nat.le_of_ble_eq_true rfl, Nat.le_of_ble_eq_true rfl⟩ rfl rfl rfl (Nat.le_of_ble_eq_true rfl) rfl ?_
  refine V.istore_n (L' := [some (.ref (y)), some (.int (nI (cntC (fun e => BI 0 (R 0 e)) (fun e => BI 4 (R 0 e)) (2 ^ S 0 2))))]) k dX2_writeChanges_7 (Nat.le_of_ble_eq_true rfl) rfl ?_
  refine V.iload_n k dX2_writeChanges_8 rfl ?_
  refine V.z_ne (tgt := 14) k dX2_writeChanges_9 (by decide) (by omega) (fun hz => ?_) (fun hz => ?_)
  · refine V.iload_n k dX2_writeChanges_14 rfl ?_
    refine V.aload_n k dX2_writeChanges_15 rfl ?_
    refine V.getf (v := .ref (y + 4)) k dX2_writeChanges_16 fl_X2_writeChanges_38 (hC.1.1) rfl ?_
    refine V.getf (v := .int (nI (S 0 2))) k dX2_writeChanges_19 fl_X2_writeChanges_115 (hC.1.2.1.1) rfl ?_
    refine V.cS (As := [.int (nI (S 0 2))]) (st1 := [.int (nI (drB (S 0 2))), .int (nI (cntC (fun e => BI 0 (R 0 e)) (fun e => BI 4 (R 0 e)) (2 ^ S 0 2)))]) k dX2_writeChanges_22 (c_X2_blocksOfDirectory l w G sz _ (show S 0 2 ≤ 8 by omega)) gX2_writeChanges_X2_blocksOfDirectory rfl hd_X2_blocksOfDirectory ⟨⟨Nat.le_of_ble_eq_true rfl, Nat.le_of_ble_eq_true rfl⟩, Nat.le_of_ble_eq_true rfl, Nat.le_of_ble_eq_true rfl⟩ rfl rfl rfl (Nat.le_of_ble_eq_true rfl) rfl ?_
    refine V.iadd (v := (nI ((cntC (fun e => BI 0 (R 0 e)) (fun e => BI 4 (R 0 e)) (2 ^ S 0 2)) + (drB (S 0 2))))) k dX2_writeChanges_25 (nI_add _ _) ?_
    refine V.aload_n k dX2_writeChanges_26 rfl ?_
    refine V.cV (As := []) (ci := 2) (st1 := [.int (nI (A 0 - 2 - S (1 + A 5) 3 - drB (S (1 + A 5) 2))), .int (nI ((cntC (fun e => BI 0 (R 0 e)) (fun e => BI 4 (R 0 e)) (2 ^ S 0 2)) + (drB (S 0 2))))]) k dX2_writeChanges_27 (c_X2_freeBlocks l w y sz A S R DB T BI BD P M G hC hfr (by omega)) gX2_writeChanges_X2_freeBlocks rfl rfl (hC.1.1) ⟨rfl, hd_X2_freeBlocks⟩ ⟨⟨Nat.le_of_ble_eq_true rfl, Nat.le_of_ble_eq_true rfl⟩, Nat.le_of_ble_eq_true rfl, Nat.le_of_ble_eq_true rfl⟩ rfl rfl rfl (Nat.le_of_ble_eq_true rfl) rfl ?_
    refine V.n_le (tgt := 36) k dX2_writeChanges_30 (by decide) (by omega) (by omega) (fun hq => ?_) (fun hq => ?_)
    · exact absurd hq (by omega)
    · refine V.ldc (v := (-2000000001)) k dX2_writeChanges_33 (List.mem_of_getElem? (i := 3) rfl) ?_
      exact V.iret k hM dX2_writeChanges_35 (Nat.le_of_ble_eq_true rfl) (Nat.le_of_ble_eq_true rfl) (rt_ok)
  · exact absurd hz (by omega)
set_option maxHeartbeats 4000000 in
set_option maxRecDepth 100000 in
theorem c_X2_writeChanges_crash (l : Launch) (w : Wd) (y sz : Nat) (A : Nat → Nat) (S R DB : Nat → Nat → Nat) (T : Nat → Bool) (BI : Nat → Nat → Nat) (BD : Nat → Nat → Nat → Int32) (P : Nat → Prop) (M G : Pic) (hC : CS y sz A S R DB T BI BD P M G) (hw : WcOk A S R DB BI P) (hn : 0 < cntC (fun e => BI 0 (R 0 e)) (fun e => BI 4 (R 0 e)) (2 ^ S 0 2)) (hf : cntC (fun e => BI 0 (R 0 e)) (fun e => BI 4 (R 0 e)) (2 ^ S 0 2) + drB (S 0 2) ≤ A 0 - 2 - S (1 + A 5) 3 - drB (S (1 + A 5) 2)) (hcr : ((wcD A S R DB T BI).1 7 = 1 ∨ (wcD A S R DB T BI).1 8 = 1)) : Ct l w yX2_writeChanges wsX2_writeChanges ⟨3, 0, 0, 62⟩ [.ref (y)] G sz (fun v G' sz' => v = some (.int (-2000000003)) ∧ sz' = sz ∧ CS y sz (wbA (wcD A S R DB T BI).1) S R (va_up DB 0 (wcD A S R DB T BI).2.2) (wcD A S R DB T BI).2.1 (wcW A S R DB T BI).2.2 BD P M G') := by
  refine Ct.of (cc := cX2_writeChanges) (maxL := 2) (ret := (some .int)) (L := [some (.ref (y)), none]) (by decide +kernel) rfl (by simp [Value.category]) (by simp) rfl ?_
  intro p e s m args below meth c k hM
  have hab := hC.ab
  obtain ⟨hA0, hA0b, hA1, hA5, hA7, hA8⟩ := hab
  have hsz := hC.2.2.1.2
  obtain ⟨hS2, hR, hB0, hfr, hSm, hRm, hDm⟩ := hw
  have hmm := hSm (A 5) (by omega)
  have hpw : 2 ^ S 0 2 ≤ 2 ^ A 1 := Nat.pow_le_pow_right (by omega) hS2
  have hpA := p2le hA1
  have hpp := p2pos (S 0 2)
  have hdr := drB_le (show S 0 2 ≤ 8 by omega)
  have hdr3 := drB_le hA1
  have hcc := cntC_le (fun e => BI 0 (R 0 e)) (fun e => BI 4 (R 0 e)) (2 ^ S 0 2)
  refine V.aload_n k dX2_writeChanges_0 rfl ?_
  refine V.getf (v := .ref (y + 4)) k dX2_writeChanges_1 fl_X2_writeChanges_38 (hC.1.1) rfl ?_
  refine V.cV (As := []) (ci := 1) (st1 := [.int (nI (cntC (fun e => BI 0 (R 0 e)) (fun e => BI 4 (R 0 e)) (2 ^ S 0 2)))]) k dX2_writeChanges_4 (c_X1_changedBuckets l w (y + 4) sz G _ _ _ _ _ _ _ hC.1.2.1 (by omega) (by omega) (by omega) (fun e => BI 0 (R 0 e)) (fun e => BI 4 (R 0 e)) (fun j hj => ⟨⟨_, _, _, (hC.bk (hR j hj).1).1⟩, by have := (hR j hj).2; omega, hB0 _⟩)) gX2_writeChanges_X1_changedBuckets rfl rfl (hC.1.2.1.1) ⟨rfl, hd_X1_changedBuckets⟩ ⟨⟨Nat.le_of_ble_eq_true rfl, Nat.le_of_ble_eq_true rfl⟩, Nat.le_of_ble_eq_true rfl, Nat.le_of_ble_eq_true rfl⟩ rfl rfl rfl (Nat.le_of_ble_eq_true rfl) rfl ?_
  refine V.istore_n (L' := [some (.ref (y)), some (.int (nI (cntC (fun e => BI 0 (R 0 e)) (fun e => BI 4 (R 0 e)) (2 ^ S 0 2))))]) k dX2_writeChanges_7 (Nat.le_of_ble_eq_true rfl) rfl ?_
  refine V.iload_n k dX2_writeChanges_8 rfl ?_
  refine V.z_ne (tgt := 14) k dX2_writeChanges_9 (by decide) (by omega) (fun hz => ?_) (fun hz => ?_)
  · refine V.iload_n k dX2_writeChanges_14 rfl ?_
    refine V.aload_n k dX2_writeChanges_15 rfl ?_
    refine V.getf (v := .ref (y + 4)) k dX2_writeChanges_16 fl_X2_writeChanges_38 (hC.1.1) rfl ?_
    refine V.getf (v := .int (nI (S 0 2))) k dX2_writeChanges_19 fl_X2_writeChanges_115 (hC.1.2.1.1) rfl ?_
    refine V.cS (As := [.int (nI (S 0 2))]) (st1 := [.int (nI (drB (S 0 2))), .int (nI (cntC (fun e => BI 0 (R 0 e)) (fun e => BI 4 (R 0 e)) (2 ^ S 0 2)))]) k dX2_writeChanges_22 (c_X2_blocksOfDirectory l w G sz _ (show S 0 2 ≤ 8 by omega)) gX2_writeChanges_X2_blocksOfDirectory rfl hd_X2_blocksOfDirectory ⟨⟨Nat.le_of_ble_eq_true rfl, Nat.le_of_ble_eq_true rfl⟩, Nat.le_of_ble_eq_true rfl, Nat.le_of_ble_eq_true rfl⟩ rfl rfl rfl (Nat.le_of_ble_eq_true rfl) rfl ?_
    refine V.iadd (v := (nI ((cntC (fun e => BI 0 (R 0 e)) (fun e => BI 4 (R 0 e)) (2 ^ S 0 2)) + (drB (S 0 2))))) k dX2_writeChanges_25 (nI_add _ _) ?_
    refine V.aload_n k dX2_writeChanges_26 rfl ?_
    refine V.cV (As := []) (ci := 2) (st1 := [.int (nI (A 0 - 2 - S (1 + A 5) 3 - drB (S (1 + A 5) 2))), .int (nI ((cntC (fun e => BI 0 (R 0 e)) (fun e => BI 4 (R 0 e)) (2 ^ S 0 2)) + (drB (S 0 2))))]) k dX2_writeChanges_27 (c_X2_freeBlocks l w y sz A S R DB T BI BD P M G hC hfr (by omega)) gX2_writeChanges_X2_freeBlocks rfl rfl (hC.1.1) ⟨rfl, hd_X2_freeBlocks⟩ ⟨⟨Nat.le_of_ble_eq_true rfl, Nat.le_of_ble_eq_true rfl⟩, Nat.le_of_ble_eq_true rfl, Nat.le_of_ble_eq_true rfl⟩ rfl rfl rfl (Nat.le_of_ble_eq_true rfl) rfl ?_
    refine V.n_le (tgt := 36) k dX2_writeChanges_30 (by decide) (by omega) (by omega) (fun hq => ?_) (fun hq => ?_)
    · refine V.dropL 1 (L' := [some (.ref (y)), none]) rfl ?_
      refine V.aload_n k dX2_writeChanges_36 rfl ?_
      refine V.callV (As := []) (ci := 2) k dX2_writeChanges_37 (c_X2_takeSynced l w y sz A S R DB T BI BD P M G hC hmm hRm hDm) gX2_writeChanges_X2_takeSynced rfl rfl (hC.1.1) ⟨rfl, hd_X2_takeSynced⟩ ⟨⟨Nat.le_of_ble_eq_true rfl, Nat.le_of_ble_eq_true rfl⟩, Nat.le_of_ble_eq_true rfl, Nat.le_of_ble_eq_true rfl⟩ rfl rfl rfl (Nat.le_of_ble_eq_true rfl) (fun v1 G1 sz1 hp1 => ?_)
      obtain ⟨rfl, rfl, hC1⟩ := hp1
      have hC1 : CS y _ A S R DB (wcT A S R DB T BI) BI BD P M G1 := hC1
      refine V.stk (st' := []) rfl ?_
      refine V.aload_n k dX2_writeChanges_40 rfl ?_
      refine V.callV (As := []) (ci := 2) k dX2_writeChanges_41 (c_X2_writeBuckets l w y _ A S R DB (wcT A S R DB T BI) BI BD P M G1 hC1 hS2 (fun e he => (hR e he).1) hB0) gX2_writeChanges_X2_writeBuckets rfl rfl (hC1.1.1) ⟨rfl, hd_X2_writeBuckets⟩ ⟨⟨Nat.le_of_ble_eq_true rfl, Nat.le_of_ble_eq_true rfl⟩, Nat.le_of_ble_eq_true rfl, Nat.le_of_ble_eq_true rfl⟩ rfl rfl rfl (Nat.le_of_ble_eq_true rfl) (fun v2 G2 sz2 hp2 => ?_)
      obtain ⟨rfl, rfl, hC2⟩ := hp2
      have hC2 : CS y _ (wcW A S R DB T BI).1 S R DB (wcW A S R DB T BI).2.1 (wcW A S R DB T BI).2.2 BD P M G2 := hC2
      refine V.stk (st' := []) rfl ?_
      refine V.aload_n k dX2_writeChanges_44 rfl ?_
      refine V.callV (As := []) (ci := 2) k dX2_writeChanges_45 (c_X2_writeDirectory l w y _ _ S R DB _ _ BD P M G2 hC2 (by rw [show (wcW A S R DB T BI).1 1 = A 1 from wbS_fix _ _ _ _ 1 (by omega) _]; exact hS2)) gX2_writeChanges_X2_writeDirectory rfl rfl (hC2.1.1) ⟨rfl, hd_X2_writeDirectory⟩ ⟨⟨Nat.le_of_ble_eq_true rfl, Nat.le_of_ble_eq_true rfl⟩, Nat.le_of_ble_eq_true rfl, Nat.le_of_ble_eq_true rfl⟩ rfl rfl rfl (Nat.le_of_ble_eq_true rfl) (fun v3 G3 sz3 hp3 => ?_)
      obtain ⟨rfl, rfl, hC3⟩ := hp3
      have hC3 : CS y _ (wcD A S R DB T BI).1 S R (va_up DB 0 (wcD A S R DB T BI).2.2) (wcD A S R DB T BI).2.1 (wcW A S R DB T BI).2.2 BD P M G3 := hC3
      refine V.stk (st' := []) rfl ?_
      refine V.aload_n k dX2_writeChanges_48 rfl ?_
      refine V.cV (As := []) (ci := 2) (st1 := [.int (bI (decide (¬ ((wcD A S R DB T BI).1 7 = 1 ∨ (wcD A S R DB T BI).1 8 = 1))))]) k dX2_writeChanges_49 (c_X2_writeBlock l w y _ G3 _ hC3.1.1 hC3.ab) gX2_writeChanges_X2_writeBlock rfl rfl (hC3.1.1) ⟨rfl, hd_X2_writeBlock⟩ ⟨⟨Nat.le_of_ble_eq_true rfl, Nat.le_of_ble_eq_true rfl⟩, Nat.le_of_ble_eq_true rfl, Nat.le_of_ble_eq_true rfl⟩ rfl rfl rfl (Nat.le_of_ble_eq_true rfl) rfl ?_
      have hC4 := hC3.putA (A' := wbA (wcD A S R DB T BI).1) rfl rfl (AB_wb hC3.ab)
      have f0 := wcA_fix A S R DB T BI 0 (by omega)
      have f1 := wcA_fix A S R DB T BI 1 (by omega)
      have f5 := wcA_fix A S R DB T BI 5 (by omega)
      refine V.b_ne (tgt := 58) k dX2_writeChanges_52 (by decide) (fun hd => ?_) (fun hd => ?_)
      · exact absurd hcr (of_decide_eq_true hd)
      · refine V.ldc (v := (-2000000003)) k dX2_writeChanges_55 (List.mem_of_getElem? (i := 4) rfl) ?_
        exact V.iret k hM dX2_writeChanges_57 (Nat.le_of_ble_eq_true rfl) (Nat.le_of_ble_eq_true rfl) (⟨rfl, rfl, hC4⟩)
    · exact absurd hq (by omega)
  · exact absurd hz (by omega)
set_option maxHeartbeats 4000000 in
set_option maxRecDepth 100000 in
theorem c_X2_writeChanges_ok (l : Launch) (w : Wd) (y sz : Nat) (A : Nat → Nat) (S R DB : Nat → Nat → Nat) (T : Nat → Bool) (BI : Nat → Nat → Nat) (BD : Nat → Nat → Nat → Int32) (P : Nat → Prop) (M G : Pic) (hC : CS y sz A S R DB T BI BD P M G) (hw : WcOk A S R DB BI P) (hn : 0 < cntC (fun e => BI 0 (R 0 e)) (fun e => BI 4 (R 0 e)) (2 ^ S 0 2)) (hf : cntC (fun e => BI 0 (R 0 e)) (fun e => BI 4 (R 0 e)) (2 ^ S 0 2) + drB (S 0 2) ≤ A 0 - 2 - S (1 + A 5) 3 - drB (S (1 + A 5) 2)) (hcr : ¬ ((wcD A S R DB T BI).1 7 = 1 ∨ (wcD A S R DB T BI).1 8 = 1)) : Ct l w yX2_writeChanges wsX2_writeChanges ⟨3, 0, 0, 62⟩ [.ref (y)] G sz (fun v G' sz' => v = some (.int (nI 0)) ∧ sz' = sz ∧ CS y sz (va_up (wbA (wcD A S R DB T BI).1) 5 (1 - A 5)) (va_up S (1 + (1 - A 5)) (s3 (S 0 2) (S 0 3) (S 0 4))) (va_up R (1 + (1 - A 5)) (cpT (R 0) (R (1 + (1 - A 5))) (2 ^ S 0 2))) (va_up (va_up DB 0 (wcD A S R DB T BI).2.2) (1 + (1 - A 5)) (cpT (wcD A S R DB T BI).2.2 (DB (1 + (1 - A 5))) (drB (A 1)))) (wcD A S R DB T BI).2.1 (wcW A S R DB T BI).2.2 BD P M G') := by
  refine Ct.of (cc := cX2_writeChanges) (maxL := 2) (ret := (some .int)) (L := [some (.ref (y)), none]) (by decide +kernel) rfl (by simp [Value.category]) (by simp) rfl ?_
  intro p e s m args below meth c k hM
  have hab := hC.ab
  obtain ⟨hA0, hA0b, hA1, hA5, hA7, hA8⟩ := hab
  have hsz := hC.2.2.1.2
  obtain ⟨hS2, hR, hB0, hfr, hSm, hRm, hDm⟩ := hw
  have hmm := hSm (A 5) (by omega)
  have hpw : 2 ^ S 0 2 ≤ 2 ^ A 1 := Nat.pow_le_pow_right (by omega) hS2
  have hpA := p2le hA1
  have hpp := p2pos (S 0 2)
  have hdr := drB_le (show S 0 2 ≤ 8 by omega)
  have hdr3 := drB_le hA1
  have hcc := cntC_le (fun e => BI 0 (R 0 e)) (fun e => BI 4 (R 0 e)) (2 ^ S 0 2)
  refine V.aload_n k dX2_writeChanges_0 rfl ?_
  refine V.getf (v := .ref (y + 4)) k dX2_writeChanges_1 fl_X2_writeChanges_38 (hC.1.1) rfl ?_
  refine V.cV (As := []) (ci := 1) (st1 := [.int (nI (cntC (fun e => BI 0 (R 0 e)) (fun e => BI 4 (R 0 e)) (2 ^ S 0 2)))]) k dX2_writeChanges_4 (c_X1_changedBuckets l w (y + 4) sz G _ _ _ _ _ _ _ hC.1.2.1 (by omega) (by omega) (by omega) (fun e => BI 0 (R 0 e)) (fun e => BI 4 (R 0 e)) (fun j hj => ⟨⟨_, _, _, (hC.bk (hR j hj).1).1⟩, by have := (hR j hj).2; omega, hB0 _⟩)) gX2_writeChanges_X1_changedBuckets rfl rfl (hC.1.2.1.1) ⟨rfl, hd_X1_changedBuckets⟩ ⟨⟨Nat.le_of_ble_eq_true rfl, Nat.le_of_ble_eq_true rfl⟩, Nat.le_of_ble_eq_true rfl, Nat.le_of_ble_eq_true rfl⟩ rfl rfl rfl (Nat.le_of_ble_eq_true rfl) rfl ?_
  refine V.istore_n (L' := [some (.ref (y)), some (.int (nI (cntC (fun e => BI 0 (R 0 e)) (fun e => BI 4 (R 0 e)) (2 ^ S 0 2))))]) k dX2_writeChanges_7 (Nat.le_of_ble_eq_true rfl) rfl ?_
  refine V.iload_n k dX2_writeChanges_8 rfl ?_
  refine V.z_ne (tgt := 14) k dX2_writeChanges_9 (by decide) (by omega) (fun hz => ?_) (fun hz => ?_)
  · refine V.iload_n k dX2_writeChanges_14 rfl ?_
    refine V.aload_n k dX2_writeChanges_15 rfl ?_
    refine V.getf (v := .ref (y + 4)) k dX2_writeChanges_16 fl_X2_writeChanges_38 (hC.1.1) rfl ?_
    refine V.getf (v := .int (nI (S 0 2))) k dX2_writeChanges_19 fl_X2_writeChanges_115 (hC.1.2.1.1) rfl ?_
    refine V.cS (As := [.int (nI (S 0 2))]) (st1 := [.int (nI (drB (S 0 2))), .int (nI (cntC (fun e => BI 0 (R 0 e)) (fun e => BI 4 (R 0 e)) (2 ^ S 0 2)))]) k dX2_writeChanges_22 (c_X2_blocksOfDirectory l w G sz _ (show S 0 2 ≤ 8 by omega)) gX2_writeChanges_X2_blocksOfDirectory rfl hd_X2_blocksOfDirectory ⟨⟨Nat.le_of_ble_eq_true rfl, Nat.le_of_ble_eq_true rfl⟩, Nat.le_of_ble_eq_true rfl, Nat.le_of_ble_eq_true rfl⟩ rfl rfl rfl (Nat.le_of_ble_eq_true rfl) rfl ?_
    refine V.iadd (v := (nI ((cntC (fun e => BI 0 (R 0 e)) (fun e => BI 4 (R 0 e)) (2 ^ S 0 2)) + (drB (S 0 2))))) k dX2_writeChanges_25 (nI_add _ _) ?_
    refine V.aload_n k dX2_writeChanges_26 rfl ?_
    refine V.cV (As := []) (ci := 2) (st1 := [.int (nI (A 0 - 2 - S (1 + A 5) 3 - drB (S (1 + A 5) 2))), .int (nI ((cntC (fun e => BI 0 (R 0 e)) (fun e => BI 4 (R 0 e)) (2 ^ S 0 2)) + (drB (S 0 2))))]) k dX2_writeChanges_27 (c_X2_freeBlocks l w y sz A S R DB T BI BD P M G hC hfr (by omega)) gX2_writeChanges_X2_freeBlocks rfl rfl (hC.1.1) ⟨rfl, hd_X2_freeBlocks⟩ ⟨⟨Nat.le_of_ble_eq_true rfl, Nat.le_of_ble_eq_true rfl⟩, Nat.le_of_ble_eq_true rfl, Nat.le_of_ble_eq_true rfl⟩ rfl rfl rfl (Nat.le_of_ble_eq_true rfl) rfl ?_
    refine V.n_le (tgt := 36) k dX2_writeChanges_30 (by decide) (by omega) (by omega) (fun hq => ?_) (fun hq => ?_)
    · refine V.dropL 1 (L' := [some (.ref (y)), none]) rfl ?_
      refine V.aload_n k dX2_writeChanges_36 rfl ?_
      refine V.callV (As := []) (ci := 2) k dX2_writeChanges_37 (c_X2_takeSynced l w y sz A S R DB T BI BD P M G hC hmm hRm hDm) gX2_writeChanges_X2_takeSynced rfl rfl (hC.1.1) ⟨rfl, hd_X2_takeSynced⟩ ⟨⟨Nat.le_of_ble_eq_true rfl, Nat.le_of_ble_eq_true rfl⟩, Nat.le_of_ble_eq_true rfl, Nat.le_of_ble_eq_true rfl⟩ rfl rfl rfl (Nat.le_of_ble_eq_true rfl) (fun v1 G1 sz1 hp1 => ?_)
      obtain ⟨rfl, rfl, hC1⟩ := hp1
      have hC1 : CS y _ A S R DB (wcT A S R DB T BI) BI BD P M G1 := hC1
      refine V.stk (st' := []) rfl ?_
      refine V.aload_n k dX2_writeChanges_40 rfl ?_
      refine V.callV (As := []) (ci := 2) k dX2_writeChanges_41 (c_X2_writeBuckets l w y _ A S R DB (wcT A S R DB T BI) BI BD P M G1 hC1 hS2 (fun e he => (hR e he).1) hB0) gX2_writeChanges_X2_writeBuckets rfl rfl (hC1.1.1) ⟨rfl, hd_X2_writeBuckets⟩ ⟨⟨Nat.le_of_ble_eq_true rfl, Nat.le_of_ble_eq_true rfl⟩, Nat.le_of_ble_eq_true rfl, Nat.le_of_ble_eq_true rfl⟩ rfl rfl rfl (Nat.le_of_ble_eq_true rfl) (fun v2 G2 sz2 hp2 => ?_)
      obtain ⟨rfl, rfl, hC2⟩ := hp2
      have hC2 : CS y _ (wcW A S R DB T BI).1 S R DB (wcW A S R DB T BI).2.1 (wcW A S R DB T BI).2.2 BD P M G2 := hC2
      refine V.stk (st' := []) rfl ?_
      refine V.aload_n k dX2_writeChanges_44 rfl ?_
      refine V.callV (As := []) (ci := 2) k dX2_writeChanges_45 (c_X2_writeDirectory l w y _ _ S R DB _ _ BD P M G2 hC2 (by rw [show (wcW A S R DB T BI).1 1 = A 1 from wbS_fix _ _ _ _ 1 (by omega) _]; exact hS2)) gX2_writeChanges_X2_writeDirectory rfl rfl (hC2.1.1) ⟨rfl, hd_X2_writeDirectory⟩ ⟨⟨Nat.le_of_ble_eq_true rfl, Nat.le_of_ble_eq_true rfl⟩, Nat.le_of_ble_eq_true rfl, Nat.le_of_ble_eq_true rfl⟩ rfl rfl rfl (Nat.le_of_ble_eq_true rfl) (fun v3 G3 sz3 hp3 => ?_)
      obtain ⟨rfl, rfl, hC3⟩ := hp3
      have hC3 : CS y _ (wcD A S R DB T BI).1 S R (va_up DB 0 (wcD A S R DB T BI).2.2) (wcD A S R DB T BI).2.1 (wcW A S R DB T BI).2.2 BD P M G3 := hC3
      refine V.stk (st' := []) rfl ?_
      refine V.aload_n k dX2_writeChanges_48 rfl ?_
      refine V.cV (As := []) (ci := 2) (st1 := [.int (bI (decide (¬ ((wcD A S R DB T BI).1 7 = 1 ∨ (wcD A S R DB T BI).1 8 = 1))))]) k dX2_writeChanges_49 (c_X2_writeBlock l w y _ G3 _ hC3.1.1 hC3.ab) gX2_writeChanges_X2_writeBlock rfl rfl (hC3.1.1) ⟨rfl, hd_X2_writeBlock⟩ ⟨⟨Nat.le_of_ble_eq_true rfl, Nat.le_of_ble_eq_true rfl⟩, Nat.le_of_ble_eq_true rfl, Nat.le_of_ble_eq_true rfl⟩ rfl rfl rfl (Nat.le_of_ble_eq_true rfl) rfl ?_
      have hC4 := hC3.putA (A' := wbA (wcD A S R DB T BI).1) rfl rfl (AB_wb hC3.ab)
      have f0 := wcA_fix A S R DB T BI 0 (by omega)
      have f1 := wcA_fix A S R DB T BI 1 (by omega)
      have f5 := wcA_fix A S R DB T BI 5 (by omega)
      generalize wbA (wcD A S R DB T BI).1 = A3 at hC4 f0 f1 f5 ⊢
      generalize gup G3 y (xO y A3) = G4 at hC4 ⊢
      refine V.b_ne (tgt := 58) k dX2_writeChanges_52 (by decide) (fun hd => ?_) (fun hd => ?_)
      · refine V.aload_n k dX2_writeChanges_58 rfl ?_
        refine V.iconst (v := nI 1) k dX2_writeChanges_59 (by decide) ?_
        refine V.aload_n k dX2_writeChanges_60 rfl ?_
        refine V.getf (v := .int (nI (A3 5))) k dX2_writeChanges_61 fl_X2_writeChanges_124 (hC4.1.1) rfl ?_
        refine V.isub (v := (nI (1 - A 5))) k dX2_writeChanges_64 (by rw [f5]; exact pk_sub hA5) ?_
        refine V.putf (fs' := [.int (nI (A3 0)), .int (nI (A3 1)), .ref (y + 4), .ref (y + 7), .ref (y + 14), .int (nI (1 - A 5)), .int (nI (A3 6)), .int (nI (A3 7)), .int (nI (A3 8))]) k dX2_writeChanges_65 fl_X2_writeChanges_124 ft_X2_5 (hC4.1.1) (by first | rfl | decide) rfl (Nat.le_of_ble_eq_true rfl) rfl ?_
        have hab4 := hC4.ab
        have hC5 := hC4.putA (A' := va_up A3 5 (1 - A 5)) rfl rfl (by obtain ⟨z0, z1, z2, z3, z4, z5⟩ := hab4; exact ⟨z0, z1, z2, (show 1 - A 5 ≤ 1 by omega), z4, z5⟩)
        refine V.pic (show _ = gup G4 y (xO y (va_up A3 5 (1 - A 5))) from rfl) ?_
        generalize gup G4 y (xO y (va_up A3 5 (1 - A 5))) = G5 at hC5 ⊢
        refine V.aload_n k dX2_writeChanges_68 rfl ?_
        refine V.getf (v := .ref (y + 7)) k dX2_writeChanges_69 fl_X2_writeChanges_42 (hC5.1.1) rfl ?_
        refine V.aload_n k dX2_writeChanges_72 rfl ?_
        refine V.getf (v := .int (nI (1 - A 5))) k dX2_writeChanges_73 fl_X2_writeChanges_124 (hC5.1.1) rfl ?_
        refine V.sald (b := y + 8 + 3 * (1 - A 5)) k dX2_writeChanges_76 (hC5.1.2.2.2.1) rfl (by omega) (by omega) (rfl) ?_
        refine V.aload_n k dX2_writeChanges_77 rfl ?_
        refine V.getf (v := .ref (y + 4)) k dX2_writeChanges_78 fl_X2_writeChanges_38 (hC5.1.1) rfl ?_
        have hm1 := hSm (1 - A 5) (by omega)
        have hpm : 2 ^ S (1 + (1 - A 5)) 2 ≤ 2 ^ A 1 := Nat.pow_le_pow_right (by omega) hm1
        have e1 : va_up A3 5 (1 - A 5) 1 = A 1 := f1
        refine V.callV (As := [.ref (y + 4)]) (ci := 1) k dX2_writeChanges_81 (c_X1_copyFrom l w (y + 8 + 3 * (1 - A 5)) _ G5 _ _ _ _ _ _ _ (hC5.1.2.2.1 (1 - A 5) (by omega)) (by omega) (by rw [e1]; exact hpA) (by rw [e1]; exact hpm) (y + 4) _ _ _ _ _ hC5.1.2.1 (by omega) (by omega) (by rw [e1]; exact hpw) (by rw [e1]; omega) (fun j hj => ⟨⟨_, (hC5.bk (hR j hj).1).1⟩, by have := hC5.at (hR j hj).1; omega⟩)) gX2_writeChanges_X1_copyFrom rfl rfl ((hC5.1.2.2.1 (1 - A 5) (by omega)).1) ⟨rfl, hd_X1_copyFrom⟩ ⟨⟨Nat.le_of_ble_eq_true rfl, Nat.le_of_ble_eq_true rfl⟩, Nat.le_of_ble_eq_true rfl, Nat.le_of_ble_eq_true rfl⟩ rfl rfl rfl (Nat.le_of_ble_eq_true rfl) (fun v6 G6 sz6 hp6 => ?_)
        obtain ⟨rfl, rfl, hS6, hs6⟩ := hp6
        have hC6 := hC5.masG (j := 1 - A 5) (by omega) (S' := va_up S (1 + (1 - A 5)) (s3 (S 0 2) (S 0 3) (S 0 4))) (R' := va_up R (1 + (1 - A 5)) (cpT (R 0) (R (1 + (1 - A 5))) (2 ^ S 0 2))) (DB' := va_up (va_up DB 0 (wcD A S R DB T BI).2.2) (1 + (1 - A 5)) (cpT (wcD A S R DB T BI).2.2 (DB (1 + (1 - A 5))) (drB (A 1)))) (G' := G6) (by rw [va_up_self, va_up_self, va_up_self]; rw [va_up_ne DB _ (show 1 + (1 - A 5) ≠ 0 by omega)] at hS6; rw [e1] at hS6 ⊢; exact hS6) (fun i hi => va_up_ne _ _ hi) (fun i hi => va_up_ne _ _ hi) (fun i hi => va_up_ne _ _ hi) hs6
        refine V.stk (st' := []) rfl ?_
        refine V.iconst (v := nI 0) k dX2_writeChanges_84 (by decide) ?_
        exact V.iret k hM dX2_writeChanges_85 (Nat.le_of_ble_eq_true rfl) (Nat.le_of_ble_eq_true rfl) (⟨rfl, rfl, hC6⟩)
      · exact absurd hcr (of_decide_eq_false hd)
    · exact absurd hq (by omega)
  · exact absurd hz (by omega)
theorem fl_X2_sync_50 : FL wsX2_sync RX2 50 2 8 := ⟨RX2, TX2, 9, rfl, (fun _ h => List.mem_cons_of_mem _ (List.mem_append_left _ (List.mem_append_left _ (List.mem_append_right _ h)))), by decide, List.mem_of_getElem? (i := 1) rfl, rfl⟩
set_option maxHeartbeats 4000000 in
set_option maxRecDepth 100000 in
theorem c_X2_sync_dn (l : Launch) (w : Wd) (y sz : Nat) (A : Nat → Nat) (S R DB : Nat → Nat → Nat) (T : Nat → Bool) (BI : Nat → Nat → Nat) (BD : Nat → Nat → Nat → Int32) (P : Nat → Prop) (M G : Pic) (hC : CS y sz A S R DB T BI BD P M G) (hd : A 8 = 1) : Ct l w yX2_sync wsX2_sync ⟨4, 0, 0, 83⟩ [.ref (y)] G sz (rt (some (.int (-2000000003))) G sz) := by
  refine Ct.of (cc := cX2_sync) (maxL := 1) (ret := (some .int)) (L := [some (.ref (y))]) (by decide +kernel) rfl (by simp [Value.category]) (by simp) rfl ?_
  intro p e s m args below meth c k hM
  have hab := hC.ab
  obtain ⟨hA0, hA0b, hA1, hA5, hA7, hA8⟩ := hab
  have hsz := hC.2.2.1.2
  refine V.aload_n k dX2_sync_0 rfl ?_
  refine V.getf (v := .int (nI (A 8))) k dX2_sync_1 fl_X2_sync_50 (hC.1.1) rfl ?_
  refine V.z_eq (tgt := 12) k dX2_sync_4 (by decide) (by omega) (fun hq => ?_) (fun hq => ?_)
  · exact absurd hq (by omega)
  · refine V.ldc (v := (-2000000003)) k dX2_sync_7 (List.mem_of_getElem? (i := 2) rfl) ?_
    refine V.goto (tgt := 16) k dX2_sync_9 (by decide) ?_
    exact V.iret k hM dX2_sync_16 (Nat.le_of_ble_eq_true rfl) (Nat.le_of_ble_eq_true rfl) (rt_ok)
set_option maxHeartbeats 4000000 in
set_option maxRecDepth 100000 in
theorem c_X2_sync_up (l : Launch) (w : Wd) (y sz : Nat) (A : Nat → Nat) (S R DB : Nat → Nat → Nat) (T : Nat → Bool) (BI : Nat → Nat → Nat) (BD : Nat → Nat → Nat → Int32) (P : Nat → Prop) (M G : Pic) (hC : CS y sz A S R DB T BI BD P M G) (hd : A 8 = 0) (post : Option Value → Pic → Nat → Prop) (hW : Ct l w yX2_writeChanges wsX2_writeChanges ⟨3, 0, 0, 62⟩ [.ref y] G sz (fun v G' sz' => (∃ x : Int32, v = some (.int x)) ∧ post v G' sz')) : Ct l w yX2_sync wsX2_sync ⟨4, 0, 0, 83⟩ [.ref (y)] G sz post := by
  refine Ct.of (cc := cX2_sync) (maxL := 1) (ret := (some .int)) (L := [some (.ref (y))]) (by decide +kernel) rfl (by simp [Value.category]) (by simp) rfl ?_
  intro p e s m args below meth c k hM
  have hab := hC.ab
  obtain ⟨hA0, hA0b, hA1, hA5, hA7, hA8⟩ := hab
  have hsz := hC.2.2.1.2
  refine V.aload_n k dX2_sync_0 rfl ?_
  refine V.getf (v := .int (nI (A 8))) k dX2_sync_1 fl_X2_sync_50 (hC.1.1) rfl ?_
  refine V.z_eq (tgt := 12) k dX2_sync_4 (by decide) (by omega) (fun hq => ?_) (fun hq => ?_)
  · refine V.aload_n k dX2_sync_12 rfl ?_
    refine V.callV (As := []) (ci := 2) k dX2_sync_13 (hW) gX2_sync_X2_writeChanges rfl rfl (hC.1.1) ⟨rfl, hd_X2_writeChanges⟩ ⟨⟨Nat.le_of_ble_eq_true rfl, Nat.le_of_ble_eq_true rfl⟩, Nat.le_of_ble_eq_true rfl, Nat.le_of_ble_eq_true rfl⟩ rfl rfl rfl (Nat.le_of_ble_eq_true rfl) (fun v1 G1 sz1 hp1 => ?_)
    obtain ⟨⟨x1, rfl⟩, hp1⟩ := hp1
    refine V.stk (st' := [.int x1]) rfl ?_
    exact V.iret k hM dX2_sync_16 (Nat.le_of_ble_eq_true rfl) (Nat.le_of_ble_eq_true rfl) (hp1)
  · exact absurd hq (by omega)
theorem fl_X2_format_50 : FL wsX2_format RX2 50 2 8 := ⟨RX2, TX2, 9, rfl, (fun _ h => List.mem_cons_of_mem _ (List.mem_append_left _ (List.mem_append_left _ (List.mem_append_right _ h)))), by decide, List.mem_of_getElem? (i := 1) rfl, rfl⟩
theorem fl_X2_format_38 : FL wsX2_format RX2 38 2 2 := ⟨RX2, TX2, 9, rfl, (fun _ h => List.mem_cons_of_mem _ (List.mem_append_left _ (List.mem_append_left _ (List.mem_append_right _ h)))), by decide, List.mem_of_getElem? (i := 3) rfl, rfl⟩
set_option maxHeartbeats 4000000 in
set_option maxRecDepth 100000 in
theorem c_X2_format_dn (l : Launch) (w : Wd) (y sz : Nat) (A : Nat → Nat) (S R DB : Nat → Nat → Nat) (T : Nat → Bool) (BI : Nat → Nat → Nat) (BD : Nat → Nat → Nat → Int32) (P : Nat → Prop) (M G : Pic) (hC : CS y sz A S R DB T BI BD P M G) (hd : A 8 = 1) : Ct l w yX2_format wsX2_format ⟨4, 3, 35, 83⟩ [.ref (y)] G sz (rt (some (.int (-2000000003))) G sz) := by
  refine Ct.of (cc := cX2_format) (maxL := 1) (ret := (some .int)) (L := [some (.ref (y))]) (by decide +kernel) rfl (by simp [Value.category]) (by simp) rfl ?_
  intro p e s m args below meth c k hM
  have hab := hC.ab
  obtain ⟨hA0, hA0b, hA1, hA5, hA7, hA8⟩ := hab
  have hsz := hC.2.2.1.2
  refine V.aload_n k dX2_format_0 rfl ?_
  refine V.getf (v := .int (nI (A 8))) k dX2_format_1 fl_X2_format_50 (hC.1.1) rfl ?_
  refine V.z_eq (tgt := 10) k dX2_format_4 (by decide) (by omega) (fun hq => ?_) (fun hq => ?_)
  · exact absurd hq (by omega)
  · refine V.ldc (v := (-2000000003)) k dX2_format_7 (List.mem_of_getElem? (i := 2) rfl) ?_
    exact V.iret k hM dX2_format_9 (Nat.le_of_ble_eq_true rfl) (Nat.le_of_ble_eq_true rfl) (rt_ok)
set_option maxHeartbeats 4000000 in
set_option maxRecDepth 100000 in
theorem c_X2_format_up (l : Launch) (w : Wd) (y sz : Nat) (A : Nat → Nat) (S R DB : Nat → Nat → Nat) (T : Nat → Bool) (BI : Nat → Nat → Nat) (BD : Nat → Nat → Nat → Int32) (P : Nat → Prop) (M G : Pic) (hC : CS y sz A S R DB T BI BD P M G) (hd : A 8 = 0) (hS2 : S 0 2 ≤ A 1) (post : Option Value → Pic → Nat → Prop) (hW : ∀ G1, CS y (sz + 3) A (va_up S 0 (s3 0 1 0)) (va_up R 0 (va_up (R 0) 0 sz)) DB T (setI BI sz 0 0 0) (setD BD sz (fun _ => 0) (fun _ => 0)) (fun q => P q ∨ q = sz) M G1 → Ct l w yX2_writeChanges wsX2_writeChanges ⟨3, 0, 0, 62⟩ [.ref y] G1 (sz + 3) (fun v G' sz' => (∃ x : Int32, v = some (.int x)) ∧ post v G' sz')) : Ct l w yX2_format wsX2_format ⟨4, 3, 35, 83⟩ [.ref (y)] G sz post := by
  refine Ct.of (cc := cX2_format) (maxL := 1) (ret := (some .int)) (L := [some (.ref (y))]) (by decide +kernel) rfl (by simp [Value.category]) (by simp) rfl ?_
  intro p e s m args below meth c k hM
  have hab := hC.ab
  obtain ⟨hA0, hA0b, hA1, hA5, hA7, hA8⟩ := hab
  have hsz := hC.2.2.1.2
  have hpw : 2 ^ S 0 2 ≤ 2 ^ A 1 := Nat.pow_le_pow_right (by omega) hS2
  have hpA := p2le hA1
  refine V.aload_n k dX2_format_0 rfl ?_
  refine V.getf (v := .int (nI (A 8))) k dX2_format_1 fl_X2_format_50 (hC.1.1) rfl ?_
  refine V.z_eq (tgt := 10) k dX2_format_4 (by decide) (by omega) (fun hq => ?_) (fun hq => ?_)
  · refine V.aload_n k dX2_format_10 rfl ?_
    refine V.getf (v := .ref (y + 4)) k dX2_format_11 fl_X2_format_38 (hC.1.1) rfl ?_
    refine V.new (ci := 0) (N := 5) (fs := [.int (nI (0)), .null, .null, .int (nI (0)), .int (nI (0))]) k dX2_format_14 rfl (fun _ h => List.mem_cons_of_mem _ (List.mem_append_left _ (List.mem_append_right _ h))) tyX0_ok (List.mem_of_getElem? (i := 4) rfl) (List.mem_of_getElem? (i := 5) rfl) (List.mem_of_getElem? (i := 6) rfl) (fun j hj => by rcases (show j = 0 ∨ j = 1 ∨ j = 2 ∨ j = 3 ∨ j = 4 by omega) with rfl | rfl | rfl | rfl | rfl <;> rfl) (Nat.le_of_ble_eq_true rfl) (Nat.le_of_ble_eq_true rfl) ?_
    refine V.dup k dX2_format_17 rfl ?_
    refine V.iconst (v := nI 0) k dX2_format_18 (by decide) ?_
    refine V.callI (As := [.int (nI (0))]) k dX2_format_19 (c_X0_init l w sz (sz + 1) (gup G (sz) (gO 0 [.int (nI (0)), .null, .null, .int (nI (0)), .int (nI (0))])) 0 rfl (gup_self _ _ _)) gX2_format_X0_init rfl (List.mem_of_getElem? (i := 6) rfl) (List.mem_of_getElem? (i := 7) rfl) (List.mem_of_getElem? (i := 8) rfl) rfl hd_X0_init ⟨⟨Nat.le_of_ble_eq_true rfl, Nat.le_of_ble_eq_true rfl⟩, Nat.le_of_ble_eq_true rfl, Nat.le_of_ble_eq_true rfl⟩ rfl rfl rfl (Nat.le_of_ble_eq_true rfl) (fun v2 G2 sz2 hp2 => ?_)
    obtain ⟨rfl, rfl, hB2, hf2⟩ := hp2
    have hC2 := hC.fresh hB2 (fun q hq => (hf2 q hq).trans (gup_ne _ _ (by omega)))
    refine V.stk (st' := [.ref (sz), .ref (y + 4)]) rfl ?_
    refine V.callV (As := [.ref (sz)]) (ci := 1) k dX2_format_22 (c_X1_makeEmpty l w (y + 4) (sz + 3) G2 _ _ _ _ _ _ _ hC2.1.2.1 (by omega) (by omega) (by omega) sz _ hB2.1 (by omega)) gX2_format_X1_makeEmpty rfl rfl (hC2.1.2.1.1) ⟨rfl, hd_X1_makeEmpty⟩ ⟨⟨Nat.le_of_ble_eq_true rfl, Nat.le_of_ble_eq_true rfl⟩, Nat.le_of_ble_eq_true rfl, Nat.le_of_ble_eq_true rfl⟩ rfl rfl rfl (Nat.le_of_ble_eq_true rfl) (fun v3 G3 sz3 hp3 => ?_)
    obtain ⟨rfl, rfl, hS3, hs3⟩ := hp3
    have hC3 := hC2.liveG (S' := va_up S 0 (s3 0 1 0)) (R' := va_up R 0 (va_up (R 0) 0 sz)) (DB' := DB) hS3 (fun j hj => va_up_ne _ _ hj) (fun j hj => va_up_ne _ _ hj) (fun _ _ => rfl) hs3
    refine V.stk (st' := []) rfl ?_
    refine V.aload_n k dX2_format_25 rfl ?_
    refine V.callV (As := []) (ci := 2) k dX2_format_26 (hW G3 hC3) gX2_format_X2_writeChanges rfl rfl (hC3.1.1) ⟨rfl, hd_X2_writeChanges⟩ ⟨⟨Nat.le_of_ble_eq_true rfl, Nat.le_of_ble_eq_true rfl⟩, Nat.le_of_ble_eq_true rfl, Nat.le_of_ble_eq_true rfl⟩ rfl rfl rfl (Nat.le_of_ble_eq_true rfl) (fun v1 G1 sz1 hp1 => ?_)
    obtain ⟨⟨x1, rfl⟩, hp1⟩ := hp1
    refine V.stk (st' := [.int x1]) rfl ?_
    exact V.iret k hM dX2_format_29 (Nat.le_of_ble_eq_true rfl) (Nat.le_of_ble_eq_true rfl) (hp1)
  · exact absurd hq (by omega)
theorem fl_X2_recover_38 : FL wsX2_recover RX2 38 2 2 := ⟨RX2, TX2, 9, rfl, (fun _ h => List.mem_cons_of_mem _ (List.mem_append_left _ (List.mem_append_right _ h))), by decide, List.mem_of_getElem? (i := 1) rfl, rfl⟩
theorem fl_X2_recover_42 : FL wsX2_recover RX2 42 2 3 := ⟨RX2, TX2, 9, rfl, (fun _ h => List.mem_cons_of_mem _ (List.mem_append_left _ (List.mem_append_right _ h))), by decide, List.mem_of_getElem? (i := 2) rfl, rfl⟩
theorem fl_X2_recover_124 : FL wsX2_recover RX2 124 2 5 := ⟨RX2, TX2, 9, rfl, (fun _ h => List.mem_cons_of_mem _ (List.mem_append_left _ (List.mem_append_right _ h))), by decide, List.mem_of_getElem? (i := 3) rfl, rfl⟩
theorem fl_X2_recover_50 : FL wsX2_recover RX2 50 2 8 := ⟨RX2, TX2, 9, rfl, (fun _ h => List.mem_cons_of_mem _ (List.mem_append_left _ (List.mem_append_right _ h))), by decide, List.mem_of_getElem? (i := 4) rfl, rfl⟩
theorem fl_X2_recover_121 : FL wsX2_recover RX2 121 2 7 := ⟨RX2, TX2, 9, rfl, (fun _ h => List.mem_cons_of_mem _ (List.mem_append_left _ (List.mem_append_right _ h))), by decide, List.mem_of_getElem? (i := 5) rfl, rfl⟩
set_option maxHeartbeats 4000000 in
set_option maxRecDepth 100000 in
theorem c_X2_recover (l : Launch) (w : Wd) (y sz : Nat) (A : Nat → Nat) (S R DB : Nat → Nat → Nat) (T : Nat → Bool) (BI : Nat → Nat → Nat) (BD : Nat → Nat → Nat → Int32) (P : Nat → Prop) (M G : Pic) (hC : CS y sz A S R DB T BI BD P M G) (hS2 : S 0 2 ≤ A 1) (hm2 : S (1 + A 5) 2 ≤ A 1) (hRm : ∀ e, e < 2 ^ S (1 + A 5) 2 → P (R (1 + A 5) e)) : Ct l w yX2_recover wsX2_recover ⟨2, 0, 0, 42⟩ [.ref (y)] G sz (fun v G' sz' => v = some (.int (nI 0)) ∧ sz' = sz ∧ CS y sz (va_up (va_up A 8 0) 7 0) (va_up S 0 (s3 (S (1 + A 5) 2) (S (1 + A 5) 3) (S (1 + A 5) 4))) (va_up R 0 (cpT (R (1 + A 5)) (R 0) (2 ^ S (1 + A 5) 2))) (va_up DB 0 (cpT (DB (1 + A 5)) (DB 0) (drB (A 1)))) T BI BD P M G') := by
  refine Ct.of (cc := cX2_recover) (maxL := 1) (ret := (some .int)) (L := [some (.ref (y))]) (by decide +kernel) rfl (by simp [Value.category]) (by simp) rfl ?_
  intro p e s m args below meth c k hM
  have hab := hC.ab
  obtain ⟨hA0, hA0b, hA1, hA5, hA7, hA8⟩ := hab
  have hsz := hC.2.2.1.2
  have hpw : 2 ^ S 0 2 ≤ 2 ^ A 1 := Nat.pow_le_pow_right (by omega) hS2
  have hpm : 2 ^ S (1 + A 5) 2 ≤ 2 ^ A 1 := Nat.pow_le_pow_right (by omega) hm2
  have hpA := p2le hA1
  have hdr3 := drB_le hA1
  refine V.aload_n k dX2_recover_0 rfl ?_
  refine V.getf (v := .ref (y + 4)) k dX2_recover_1 fl_X2_recover_38 (hC.1.1) rfl ?_
  refine V.aload_n k dX2_recover_4 rfl ?_
  refine V.getf (v := .ref (y + 7)) k dX2_recover_5 fl_X2_recover_42 (hC.1.1) rfl ?_
  refine V.aload_n k dX2_recover_8 rfl ?_
  refine V.getf (v := .int (nI (A 5))) k dX2_recover_9 fl_X2_recover_124 (hC.1.1) rfl ?_
  refine V.sald (b := y + 8 + 3 * A 5) k dX2_recover_12 (hC.1.2.2.2.1) rfl (by omega) (by omega) (rfl) ?_
  refine V.callV (As := [.ref (y + 8 + 3 * A 5)]) (ci := 1) k dX2_recover_13 (c_X1_copyFrom l w (y + 4) sz G _ _ _ _ _ _ _ hC.1.2.1 (by omega) (by omega) (by omega) (y + 8 + 3 * A 5) _ _ _ _ _ hC.mas (by omega) (by omega) (by omega) (by omega) (fun j hj => ⟨⟨_, (hC.bk (hRm j hj)).1⟩, by have := hC.at (hRm j hj); omega⟩)) gX2_recover_X1_copyFrom rfl rfl (hC.1.2.1.1) ⟨rfl, hd_X1_copyFrom⟩ ⟨⟨Nat.le_of_ble_eq_true rfl, Nat.le_of_ble_eq_true rfl⟩, Nat.le_of_ble_eq_true rfl, Nat.le_of_ble_eq_true rfl⟩ rfl rfl rfl (Nat.le_of_ble_eq_true rfl) (fun v1 G1 sz1 hp1 => ?_)
  obtain ⟨rfl, rfl, hS1, hs1⟩ := hp1
  have hC1 := hC.liveG (S' := va_up S 0 (s3 (S (1 + A 5) 2) (S (1 + A 5) 3) (S (1 + A 5) 4))) (R' := va_up R 0 (cpT (R (1 + A 5)) (R 0) (2 ^ S (1 + A 5) 2))) (DB' := va_up DB 0 (cpT (DB (1 + A 5)) (DB 0) (drB (A 1)))) hS1 (fun j hj => va_up_ne _ _ hj) (fun j hj => va_up_ne _ _ hj) (fun j hj => va_up_ne _ _ hj) hs1
  refine V.stk (st' := []) rfl ?_
  refine V.aload_n k dX2_recover_16 rfl ?_
  refine V.iconst (v := nI 0) k dX2_recover_17 (by decide) ?_
  refine V.putf (fs' := [.int (nI (A 0)), .int (nI (A 1)), .ref (y + 4), .ref (y + 7), .ref (y + 14), .int (nI (A 5)), .int (nI (A 6)), .int (nI (A 7)), .int (nI (0))]) k dX2_recover_18 fl_X2_recover_50 ft_X2_8 (hC1.1.1) (by first | rfl | decide) rfl (Nat.le_of_ble_eq_true rfl) rfl ?_
  refine V.aload_n k dX2_recover_21 rfl ?_
  refine V.iconst (v := nI 0) k dX2_recover_22 (by decide) ?_
  refine V.putf (fs' := [.int (nI (A 0)), .int (nI (A 1)), .ref (y + 4), .ref (y + 7), .ref (y + 14), .int (nI (A 5)), .int (nI (A 6)), .int (nI (0)), .int (nI (0))]) k dX2_recover_23 fl_X2_recover_121 ft_X2_7 (gup_self _ _ _) (by first | rfl | decide) rfl (Nat.le_of_ble_eq_true rfl) rfl ?_
  refine V.pic (show _ = gup G1 y (xO y (va_up (va_up A 8 0) 7 0)) from by rw [gup_gup]; rfl) ?_
  refine V.iconst (v := nI 0) k dX2_recover_26 (by decide) ?_
  exact V.iret k hM dX2_recover_27 (Nat.le_of_ble_eq_true rfl) (Nat.le_of_ble_eq_true rfl) (⟨rfl, rfl, hC1.putA rfl rfl ⟨hA0, hA0b, hA1, hA5, (show 0 < 2 ^ 31 by omega), (show 0 ≤ 1 by omega)⟩⟩)
