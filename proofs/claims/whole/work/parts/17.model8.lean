/-- how many blocks a sync writes ahead of the master -/
def syA (F : Nat → Nat) (N : Nat → Nat → Nat) : Nat := drB (F 6) + cntC (N 0) (N 1) (2 ^ F 6)
def syF (F : Nat → Nat) (N : Nat → Nat → Nat) : Nat → Nat := va_up (va_up F 19 (F 19 - (syA F N + 1))) 20 (F 20 + (syA F N + 1))
def syD (F : Nat → Nat) : Nat → Nat := va_up (va_up (va_up F 20 (F 20 + F 19 - 1)) 18 1) 19 0
/-- the answer of a sync, and whether it is written -/
def syO (F : Nat → Nat) (N : Nat → Nat → Nat) (Z : Nat → Nat → Bool) : Prop := F 17 ≠ 0 ∧ syA F N ≤ cntE (Z 0) (F 1 - 2) ∧ ¬ (0 < F 19 ∧ F 19 ≤ syA F N + 1)
theorem fl_X3_syncNow_99 : FL wsX3_syncNow RX3 99 3 17 := ⟨RX3, TX3, 21, rfl, (fun _ h => List.mem_cons_of_mem _ (List.mem_append_right _ h)), by decide, List.mem_of_getElem? (i := 1) rfl, rfl⟩
theorem fl_X3_syncNow_56 : FL wsX3_syncNow RX3 56 3 6 := ⟨RX3, TX3, 21, rfl, (fun _ h => List.mem_cons_of_mem _ (List.mem_append_right _ h)), by decide, List.mem_of_getElem? (i := 2) rfl, rfl⟩
theorem fl_X3_syncNow_19 : FL wsX3_syncNow RX3 19 3 8 := ⟨RX3, TX3, 21, rfl, (fun _ h => List.mem_cons_of_mem _ (List.mem_append_right _ h)), by decide, List.mem_of_getElem? (i := 3) rfl, rfl⟩
theorem fl_X3_syncNow_119 : FL wsX3_syncNow RX3 119 3 19 := ⟨RX3, TX3, 21, rfl, (fun _ h => List.mem_cons_of_mem _ (List.mem_append_right _ h)), by decide, List.mem_of_getElem? (i := 5) rfl, rfl⟩
theorem fl_X3_syncNow_122 : FL wsX3_syncNow RX3 122 3 20 := ⟨RX3, TX3, 21, rfl, (fun _ h => List.mem_cons_of_mem _ (List.mem_append_right _ h)), by decide, List.mem_of_getElem? (i := 6) rfl, rfl⟩
theorem fl_X3_syncNow_87 : FL wsX3_syncNow RX3 87 3 18 := ⟨RX3, TX3, 21, rfl, (fun _ h => List.mem_cons_of_mem _ (List.mem_append_right _ h)), by decide, List.mem_of_getElem? (i := 7) rfl, rfl⟩
set_option maxHeartbeats 4000000 in
set_option maxRecDepth 100000 in
theorem c_X3_syncNow_0 (l : Launch) (w : Wd) (y sz : Nat) (F : Nat → Nat) (K : Nat → Nat → Int32) (N : Nat → Nat → Nat) (Z : Nat → Nat → Bool) (G0 : Pic) (hd : F 6 ≤ 8) (hl : ∀ e, e < 2 ^ F 6 → N 0 e ≤ 30) (hh : ∀ e, e < 2 ^ F 6 → N 1 e ≤ 200) (hB : 8 ≤ F 1) (hB2 : F 1 ≤ 200) (hch : F 17 ≤ 1) (hcr : F 19 < 2 ^ 31) (hwr : F 20 < 1000000) (hC : F 17 = 0) : Ct l w yX3_syncNow wsX3_syncNow ⟨3, 0, 0, 65⟩ [.ref (y)] (mset y F K N Z G0) sz (rt (some (.int (nI 0))) (mset y F K N Z G0) sz) := by
  refine Ct.of (cc := cX3_syncNow) (maxL := 3) (ret := (some .int)) (L := [some (.ref (y)), none, none]) (by decide +kernel) rfl (by simp [Value.category]) (by simp) rfl ?_
  intro p e s m args below meth c k hM
  have h8 := p2le hd
  have hp0 := p2pos (F 6)
  have hdr := drB_le hd
  have hcc := cntC_le (N 0) (N 1) (2 ^ F 6)
  have hce := cntE_le (Z 0) (F 1 - 2)
  refine V.aload_n k dX3_syncNow_0 rfl ?_
  refine V.getf (v := .int (nI (F 17))) k dX3_syncNow_1 fl_X3_syncNow_99 (ms_o y F K N Z G0) rfl ?_
  refine V.z_ne (tgt := 9) k dX3_syncNow_4 (by decide) (by omega) (fun hc => ?_) (fun hc => ?_)
  · exact absurd hc (by omega)
  · refine V.iconst (v := nI 0) k dX3_syncNow_7 (by decide) ?_
    exact V.iret k hM dX3_syncNow_8 (Nat.le_of_ble_eq_true rfl) (Nat.le_of_ble_eq_true rfl) (rt_ok)
set_option maxHeartbeats 4000000 in
set_option maxRecDepth 100000 in
theorem c_X3_syncNow_nr (l : Launch) (w : Wd) (y sz : Nat) (F : Nat → Nat) (K : Nat → Nat → Int32) (N : Nat → Nat → Nat) (Z : Nat → Nat → Bool) (G0 : Pic) (hd : F 6 ≤ 8) (hl : ∀ e, e < 2 ^ F 6 → N 0 e ≤ 30) (hh : ∀ e, e < 2 ^ F 6 → N 1 e ≤ 200) (hB : 8 ≤ F 1) (hB2 : F 1 ≤ 200) (hch : F 17 ≤ 1) (hcr : F 19 < 2 ^ 31) (hwr : F 20 < 1000000) (hC : F 17 = 1) (hN : cntE (Z 0) (F 1 - 2) < syA F N) : Ct l w yX3_syncNow wsX3_syncNow ⟨3, 0, 0, 65⟩ [.ref (y)] (mset y F K N Z G0) sz (rt (some (.int (-2000000001))) (mset y F K N Z G0) sz) := by
  refine Ct.of (cc := cX3_syncNow) (maxL := 3) (ret := (some .int)) (L := [some (.ref (y)), none, none]) (by decide +kernel) rfl (by simp [Value.category]) (by simp) rfl ?_
  intro p e s m args below meth c k hM
  have h8 := p2le hd
  have hp0 := p2pos (F 6)
  have hdr := drB_le hd
  have hcc := cntC_le (N 0) (N 1) (2 ^ F 6)
  have hce := cntE_le (Z 0) (F 1 - 2)
  have lp : ∀ (n i : Nat) , i ≤ 2 ^ F 6 → 2 ^ F 6 - i < n → V p l e ⟨3, 0, 0, 65⟩ s m args below meth c w (mset y F K N Z G0) sz 0 0 (mQ w below args s ⟨3, 0, 0, 65⟩ (rt (some (.int (-2000000001))) (mset y F K N Z G0) sz)) 19 [some (.ref (y)), some (.int (nI (drB (F 6) + cntC (N 0) (N 1) i))), some (.int (nI (i)))] [] := by
    intro n
    induction n with
    | zero => intro i  h1 h2 ; omega
    | succ n ih =>
      intro i  h1 h2 
      have hci := cntC_le (N 0) (N 1) i
      refine V.iload_n k dX3_syncNow_19 rfl ?_
      refine V.iconst (v := nI 1) k dX3_syncNow_20 (by decide) ?_
      refine V.aload_n k dX3_syncNow_21 rfl ?_
      refine V.getf (v := .int (nI (F 6))) k dX3_syncNow_22 fl_X3_syncNow_56 (ms_o y F K N Z G0) rfl ?_
      refine V.ishl (v := (nI (2 ^ (F 6)))) k dX3_syncNow_25 (shl1 (by omega)) ?_
      refine V.n_ge (tgt := 60) k dX3_syncNow_26 (by decide) (by omega) (by omega) (fun hc => ?_) (fun hc => ?_)
      · have hi : i = 2 ^ F 6 := by omega
        subst hi
        have hA : syA F N = drB (F 6) + cntC (N 0) (N 1) (2 ^ F 6) := rfl
        rw [← hA]
        have hAl : syA F N ≤ 264 := by omega
        refine V.iload_n k dX3_syncNow_60 rfl ?_
        refine V.aload_n k dX3_syncNow_61 rfl ?_
        refine V.cV (As := []) (ci := 3) (st1 := [.int (nI (cntE (Z 0) (F 1 - 2))), .int (nI (syA F N))]) k dX3_syncNow_62 (c_X3_freeCount l w y sz F K N Z G0 hB hB2) gX3_syncNow_X3_freeCount rfl rfl (ms_o y F K N Z G0) ⟨rfl, hd_X3_freeCount⟩ ⟨⟨Nat.le_of_ble_eq_true rfl, Nat.le_of_ble_eq_true rfl⟩, Nat.le_of_ble_eq_true rfl, Nat.le_of_ble_eq_true rfl⟩ rfl rfl rfl (Nat.le_of_ble_eq_true rfl) rfl ?_
        refine V.n_le (tgt := 71) k dX3_syncNow_65 (by decide) (by omega) (by omega) (fun hq => ?_) (fun hq => ?_)
        · exact absurd hq (by omega)
        · refine V.ldc (v := (-2000000001)) k dX3_syncNow_68 (List.mem_of_getElem? (i := 4) rfl) ?_
          exact V.iret k hM dX3_syncNow_70 (Nat.le_of_ble_eq_true rfl) (Nat.le_of_ble_eq_true rfl) (rt_ok)
      · have hhi := hh i hc
        have hli := hl i hc
        refine V.aload_n k dX3_syncNow_29 rfl ?_
        refine V.iload_n k dX3_syncNow_30 rfl ?_
        refine V.cV (As := [.int (nI (i))]) (ci := 3) (st1 := [.int (bI (decide (i % 2 ^ N 0 i = i)))]) k dX3_syncNow_31 (c_X3_isFirst l w y sz F K N Z G0 i (by omega) hli) gX3_syncNow_X3_isFirst rfl rfl (ms_o y F K N Z G0) ⟨rfl, hd_X3_isFirst⟩ ⟨⟨Nat.le_of_ble_eq_true rfl, Nat.le_of_ble_eq_true rfl⟩, Nat.le_of_ble_eq_true rfl, Nat.le_of_ble_eq_true rfl⟩ rfl rfl rfl (Nat.le_of_ble_eq_true rfl) rfl ?_
        refine V.b_eq (tgt := 52) k dX3_syncNow_34 (by decide) (fun hf => ?_) (fun hf => ?_)
        · refine V.iload_n k dX3_syncNow_52 rfl ?_
          have hn2 : cntC (N 0) (N 1) i = cntC (N 0) (N 1) (i + 1) := by
            have hf2 : ¬ i % 2 ^ N 0 i = i := by simpa using hf
            have hng : ¬ (i % 2 ^ N 0 i = i ∧ N 1 i = 0) := fun q => hf2 q.1
            rw [cntC, if_neg hng]
          refine V.stk (st' := [.int (nI (drB (F 6) + cntC (N 0) (N 1) (i + 1)))]) (by first | (rw [← hn2]; done) | (rw [← hn2]; rfl)) ?_
          refine V.istore_n (L' := [some (.ref (y)), some (.int (nI (drB (F 6) + cntC (N 0) (N 1) (i + 1)))), some (.int (nI (i)))]) k dX3_syncNow_53 (Nat.le_of_ble_eq_true rfl) rfl ?_
          refine V.iinc (x := (nI (i))) (v := (nI (i + 1))) (L' := [some (.ref (y)), some (.int (nI (drB (F 6) + cntC (N 0) (N 1) (i + 1)))), some (.int (nI (i + 1)))]) k dX3_syncNow_54 rfl (nI_inc1 _) rfl ?_
          refine V.goto (tgt := 19) k dX3_syncNow_57 (by decide) ?_
          exact ih (i + 1) (by omega) (by omega)
        · refine V.aload_n k dX3_syncNow_37 rfl ?_
          refine V.getf (v := .ref (y + 4)) k dX3_syncNow_38 fl_X3_syncNow_19 (ms_o y F K N Z G0) rfl ?_
          refine V.iload_n k dX3_syncNow_41 rfl ?_
          refine V.iald (v := (nI (N 1 (i)))) k dX3_syncNow_42 (ms_4 y F K N Z G0) rfl (by omega) (by omega) (rfl) ?_
          refine V.z_ne (tgt := 52) k dX3_syncNow_43 (by decide) (by omega) (fun hz => ?_) (fun hz => ?_)
          · refine V.iload_n k dX3_syncNow_52 rfl ?_
            have hn2 : cntC (N 0) (N 1) i = cntC (N 0) (N 1) (i + 1) := by
              have hng : ¬ (i % 2 ^ N 0 i = i ∧ N 1 i = 0) := fun q => absurd q.2 (by omega)
              rw [cntC, if_neg hng]
            refine V.stk (st' := [.int (nI (drB (F 6) + cntC (N 0) (N 1) (i + 1)))]) (by first | (rw [← hn2]; done) | (rw [← hn2]; rfl)) ?_
            refine V.istore_n (L' := [some (.ref (y)), some (.int (nI (drB (F 6) + cntC (N 0) (N 1) (i + 1)))), some (.int (nI (i)))]) k dX3_syncNow_53 (Nat.le_of_ble_eq_true rfl) rfl ?_
            refine V.iinc (x := (nI (i))) (v := (nI (i + 1))) (L' := [some (.ref (y)), some (.int (nI (drB (F 6) + cntC (N 0) (N 1) (i + 1)))), some (.int (nI (i + 1)))]) k dX3_syncNow_54 rfl (nI_inc1 _) rfl ?_
            refine V.goto (tgt := 19) k dX3_syncNow_57 (by decide) ?_
            exact ih (i + 1) (by omega) (by omega)
          · refine V.iload_n k dX3_syncNow_46 rfl ?_
            refine V.iconst (v := nI 1) k dX3_syncNow_47 (by decide) ?_
            refine V.iadd (v := (nI ((drB (F 6) + cntC (N 0) (N 1) i) + 1))) k dX3_syncNow_48 (nI_add _ _) ?_
            refine V.goto (tgt := 53) k dX3_syncNow_49 (by decide) ?_
            have hn2 : cntC (N 0) (N 1) i + 1 = cntC (N 0) (N 1) (i + 1) := by rw [cntC, if_pos ⟨by simpa using hf, hz⟩]
            refine V.stk (st' := [.int (nI (drB (F 6) + cntC (N 0) (N 1) (i + 1)))]) (by first | (rw [← hn2]; done) | (rw [← hn2]; rfl)) ?_
            refine V.istore_n (L' := [some (.ref (y)), some (.int (nI (drB (F 6) + cntC (N 0) (N 1) (i + 1)))), some (.int (nI (i)))]) k dX3_syncNow_53 (Nat.le_of_ble_eq_true rfl) rfl ?_
            refine V.iinc (x := (nI (i))) (v := (nI (i + 1))) (L' := [some (.ref (y)), some (.int (nI (drB (F 6) + cntC (N 0) (N 1) (i + 1)))), some (.int (nI (i + 1)))]) k dX3_syncNow_54 rfl (nI_inc1 _) rfl ?_
            refine V.goto (tgt := 19) k dX3_syncNow_57 (by decide) ?_
            exact ih (i + 1) (by omega) (by omega)
  refine V.aload_n k dX3_syncNow_0 rfl ?_
  refine V.getf (v := .int (nI (F 17))) k dX3_syncNow_1 fl_X3_syncNow_99 (ms_o y F K N Z G0) rfl ?_
  refine V.z_ne (tgt := 9) k dX3_syncNow_4 (by decide) (by omega) (fun hc => ?_) (fun hc => ?_)
  · refine V.aload_n k dX3_syncNow_9 rfl ?_
    refine V.getf (v := .int (nI (F 6))) k dX3_syncNow_10 fl_X3_syncNow_56 (ms_o y F K N Z G0) rfl ?_
    refine V.cS (As := [.int (nI (F 6))]) (st1 := [.int (nI (drB (F 6)))]) k dX3_syncNow_13 (c_X3_directory l w _ sz (F 6) (by omega)) gX3_syncNow_X3_directory rfl hd_X3_directory ⟨⟨Nat.le_of_ble_eq_true rfl, Nat.le_of_ble_eq_true rfl⟩, Nat.le_of_ble_eq_true rfl, Nat.le_of_ble_eq_true rfl⟩ rfl rfl rfl (Nat.le_of_ble_eq_true rfl) rfl ?_
    refine V.stk (st' := [.int (nI (drB (F 6) + cntC (N 0) (N 1) 0))]) rfl ?_
    refine V.istore_n (L' := [some (.ref (y)), some (.int (nI (drB (F 6) + cntC (N 0) (N 1) 0))), none]) k dX3_syncNow_16 (Nat.le_of_ble_eq_true rfl) rfl ?_
    refine V.iconst (v := nI 0) k dX3_syncNow_17 (by decide) ?_
    refine V.istore_n (L' := [some (.ref (y)), some (.int (nI (drB (F 6) + cntC (N 0) (N 1) 0))), some (.int (nI (0)))]) k dX3_syncNow_18 (Nat.le_of_ble_eq_true rfl) rfl ?_
    exact lp (2 ^ F 6 + 1) 0 (by omega) (by omega)
  · exact absurd hc (by omega)
set_option maxHeartbeats 4000000 in
set_option maxRecDepth 100000 in
theorem c_X3_syncNow_dn (l : Launch) (w : Wd) (y sz : Nat) (F : Nat → Nat) (K : Nat → Nat → Int32) (N : Nat → Nat → Nat) (Z : Nat → Nat → Bool) (G0 : Pic) (hd : F 6 ≤ 8) (hl : ∀ e, e < 2 ^ F 6 → N 0 e ≤ 30) (hh : ∀ e, e < 2 ^ F 6 → N 1 e ≤ 200) (hB : 8 ≤ F 1) (hB2 : F 1 ≤ 200) (hch : F 17 ≤ 1) (hcr : F 19 < 2 ^ 31) (hwr : F 20 < 1000000) (hC : F 17 = 1) (hN : syA F N ≤ cntE (Z 0) (F 1 - 2)) (hR1 : 0 < F 19) (hR2 : F 19 ≤ syA F N + 1) : Ct l w yX3_syncNow wsX3_syncNow ⟨3, 0, 0, 65⟩ [.ref (y)] (mset y F K N Z G0) sz (rt (some (.int (-2000000003))) (mset y (syD F) K N Z G0) sz) := by
  refine Ct.of (cc := cX3_syncNow) (maxL := 3) (ret := (some .int)) (L := [some (.ref (y)), none, none]) (by decide +kernel) rfl (by simp [Value.category]) (by simp) rfl ?_
  intro p e s m args below meth c k hM
  have h8 := p2le hd
  have hp0 := p2pos (F 6)
  have hdr := drB_le hd
  have hcc := cntC_le (N 0) (N 1) (2 ^ F 6)
  have hce := cntE_le (Z 0) (F 1 - 2)
  have lp : ∀ (n i : Nat) , i ≤ 2 ^ F 6 → 2 ^ F 6 - i < n → V p l e ⟨3, 0, 0, 65⟩ s m args below meth c w (mset y F K N Z G0) sz 0 0 (mQ w below args s ⟨3, 0, 0, 65⟩ (rt (some (.int (-2000000003))) (mset y (syD F) K N Z G0) sz)) 19 [some (.ref (y)), some (.int (nI (drB (F 6) + cntC (N 0) (N 1) i))), some (.int (nI (i)))] [] := by
    intro n
    induction n with
    | zero => intro i  h1 h2 ; omega
    | succ n ih =>
      intro i  h1 h2 
      have hci := cntC_le (N 0) (N 1) i
      refine V.iload_n k dX3_syncNow_19 rfl ?_
      refine V.iconst (v := nI 1) k dX3_syncNow_20 (by decide) ?_
      refine V.aload_n k dX3_syncNow_21 rfl ?_
      refine V.getf (v := .int (nI (F 6))) k dX3_syncNow_22 fl_X3_syncNow_56 (ms_o y F K N Z G0) rfl ?_
      refine V.ishl (v := (nI (2 ^ (F 6)))) k dX3_syncNow_25 (shl1 (by omega)) ?_
      refine V.n_ge (tgt := 60) k dX3_syncNow_26 (by decide) (by omega) (by omega) (fun hc => ?_) (fun hc => ?_)
      · have hi : i = 2 ^ F 6 := by omega
        subst hi
        have hA : syA F N = drB (F 6) + cntC (N 0) (N 1) (2 ^ F 6) := rfl
        rw [← hA]
        have hAl : syA F N ≤ 264 := by omega
        refine V.iload_n k dX3_syncNow_60 rfl ?_
        refine V.aload_n k dX3_syncNow_61 rfl ?_
        refine V.cV (As := []) (ci := 3) (st1 := [.int (nI (cntE (Z 0) (F 1 - 2))), .int (nI (syA F N))]) k dX3_syncNow_62 (c_X3_freeCount l w y sz F K N Z G0 hB hB2) gX3_syncNow_X3_freeCount rfl rfl (ms_o y F K N Z G0) ⟨rfl, hd_X3_freeCount⟩ ⟨⟨Nat.le_of_ble_eq_true rfl, Nat.le_of_ble_eq_true rfl⟩, Nat.le_of_ble_eq_true rfl, Nat.le_of_ble_eq_true rfl⟩ rfl rfl rfl (Nat.le_of_ble_eq_true rfl) rfl ?_
        refine V.n_le (tgt := 71) k dX3_syncNow_65 (by decide) (by omega) (by omega) (fun hq => ?_) (fun hq => ?_)
        · refine V.iinc (x := (nI (syA F N))) (v := (nI (syA F N + 1))) (L' := [some (.ref (y)), some (.int (nI (syA F N + 1))), some (.int (nI (2 ^ F 6)))]) k dX3_syncNow_71 rfl (nI_inc1 _) rfl ?_
          refine V.aload_n k dX3_syncNow_74 rfl ?_
          refine V.getf (v := .int (nI (F 19))) k dX3_syncNow_75 fl_X3_syncNow_119 (ms_o y F K N Z G0) rfl ?_
          refine V.z_le (tgt := 117) k dX3_syncNow_78 (by decide) (by omega) (fun h1 => ?_) (fun h1 => ?_)
          · exact absurd h1 (by omega)
          · refine V.aload_n k dX3_syncNow_81 rfl ?_
            refine V.getf (v := .int (nI (F 19))) k dX3_syncNow_82 fl_X3_syncNow_119 (ms_o y F K N Z G0) rfl ?_
            refine V.iload_n k dX3_syncNow_85 rfl ?_
            refine V.n_gt (tgt := 117) k dX3_syncNow_86 (by decide) (by omega) (by omega) (fun h2 => ?_) (fun h2 => ?_)
            · exact absurd h2 (by omega)
            · refine V.aload_n k dX3_syncNow_89 rfl ?_
              refine V.aload_n k dX3_syncNow_90 rfl ?_
              refine V.getf (v := .int (nI (F 20))) k dX3_syncNow_91 fl_X3_syncNow_122 (ms_o y F K N Z G0) rfl ?_
              refine V.aload_n k dX3_syncNow_94 rfl ?_
              refine V.getf (v := .int (nI (F 19))) k dX3_syncNow_95 fl_X3_syncNow_119 (ms_o y F K N Z G0) rfl ?_
              refine V.iadd (v := (nI (F 20 + F 19))) k dX3_syncNow_98 (nI_add _ _) ?_
              refine V.iconst (v := nI 1) k dX3_syncNow_99 (by decide) ?_
              refine V.isub (v := (nI ((F 20 + F 19) - 1))) k dX3_syncNow_100 (pk_sub (by omega)) ?_
              refine V.putf (fs' := mF y (va_up F 20 ((F 20 + F 19) - 1))) k dX3_syncNow_101 fl_X3_syncNow_122 ft_X3_20 (ms_o y F K N Z G0) (by first | rfl | decide) rfl (Nat.le_of_ble_eq_true rfl) (by simp [va_up]) ?_
              refine V.pic (msF y F K N Z G0 (va_up F 20 ((F 20 + F 19) - 1))) ?_
              refine V.aload_n k dX3_syncNow_104 rfl ?_
              refine V.iconst (v := nI 1) k dX3_syncNow_105 (by decide) ?_
              refine V.putf (fs' := mF y (va_up (va_up F 20 ((F 20 + F 19) - 1)) 18 (1))) k dX3_syncNow_106 fl_X3_syncNow_87 ft_X3_18 (ms_o y (va_up F 20 ((F 20 + F 19) - 1)) K N Z G0) (by first | rfl | decide) rfl (Nat.le_of_ble_eq_true rfl) (by simp [va_up]) ?_
              refine V.pic (msF y (va_up F 20 ((F 20 + F 19) - 1)) K N Z G0 (va_up (va_up F 20 ((F 20 + F 19) - 1)) 18 (1))) ?_
              refine V.aload_n k dX3_syncNow_109 rfl ?_
              refine V.iconst (v := nI 0) k dX3_syncNow_110 (by decide) ?_
              refine V.putf (fs' := mF y (va_up (va_up (va_up F 20 ((F 20 + F 19) - 1)) 18 (1)) 19 (0))) k dX3_syncNow_111 fl_X3_syncNow_119 ft_X3_19 (ms_o y (va_up (va_up F 20 ((F 20 + F 19) - 1)) 18 (1)) K N Z G0) (by first | rfl | decide) rfl (Nat.le_of_ble_eq_true rfl) (by simp [va_up]) ?_
              refine V.pic (msF y (va_up (va_up F 20 ((F 20 + F 19) - 1)) 18 (1)) K N Z G0 (va_up (va_up (va_up F 20 ((F 20 + F 19) - 1)) 18 (1)) 19 (0))) ?_
              refine V.ldc (v := (-2000000003)) k dX3_syncNow_114 (List.mem_of_getElem? (i := 8) rfl) ?_
              exact V.iret k hM dX3_syncNow_116 (Nat.le_of_ble_eq_true rfl) (Nat.le_of_ble_eq_true rfl) (rt_ok)
        · exact absurd hq (by omega)
      · have hhi := hh i hc
        have hli := hl i hc
        refine V.aload_n k dX3_syncNow_29 rfl ?_
        refine V.iload_n k dX3_syncNow_30 rfl ?_
        refine V.cV (As := [.int (nI (i))]) (ci := 3) (st1 := [.int (bI (decide (i % 2 ^ N 0 i = i)))]) k dX3_syncNow_31 (c_X3_isFirst l w y sz F K N Z G0 i (by omega) hli) gX3_syncNow_X3_isFirst rfl rfl (ms_o y F K N Z G0) ⟨rfl, hd_X3_isFirst⟩ ⟨⟨Nat.le_of_ble_eq_true rfl, Nat.le_of_ble_eq_true rfl⟩, Nat.le_of_ble_eq_true rfl, Nat.le_of_ble_eq_true rfl⟩ rfl rfl rfl (Nat.le_of_ble_eq_true rfl) rfl ?_
        refine V.b_eq (tgt := 52) k dX3_syncNow_34 (by decide) (fun hf => ?_) (fun hf => ?_)
        · refine V.iload_n k dX3_syncNow_52 rfl ?_
          have hn2 : cntC (N 0) (N 1) i = cntC (N 0) (N 1) (i + 1) := by
            have hf2 : ¬ i % 2 ^ N 0 i = i := by simpa using hf
            have hng : ¬ (i % 2 ^ N 0 i = i ∧ N 1 i = 0) := fun q => hf2 q.1
            rw [cntC, if_neg hng]
          refine V.stk (st' := [.int (nI (drB (F 6) + cntC (N 0) (N 1) (i + 1)))]) (by first | (rw [← hn2]; done) | (rw [← hn2]; rfl)) ?_
          refine V.istore_n (L' := [some (.ref (y)), some (.int (nI (drB (F 6) + cntC (N 0) (N 1) (i + 1)))), some (.int (nI (i)))]) k dX3_syncNow_53 (Nat.le_of_ble_eq_true rfl) rfl ?_
          refine V.iinc (x := (nI (i))) (v := (nI (i + 1))) (L' := [some (.ref (y)), some (.int (nI (drB (F 6) + cntC (N 0) (N 1) (i + 1)))), some (.int (nI (i + 1)))]) k dX3_syncNow_54 rfl (nI_inc1 _) rfl ?_
          refine V.goto (tgt := 19) k dX3_syncNow_57 (by decide) ?_
          exact ih (i + 1) (by omega) (by omega)
        · refine V.aload_n k dX3_syncNow_37 rfl ?_
          refine V.getf (v := .ref (y + 4)) k dX3_syncNow_38 fl_X3_syncNow_19 (ms_o y F K N Z G0) rfl ?_
          refine V.iload_n k dX3_syncNow_41 rfl ?_
          refine V.iald (v := (nI (N 1 (i)))) k dX3_syncNow_42 (ms_4 y F K N Z G0) rfl (by omega) (by omega) (rfl) ?_
          refine V.z_ne (tgt := 52) k dX3_syncNow_43 (by decide) (by omega) (fun hz => ?_) (fun hz => ?_)
          · refine V.iload_n k dX3_syncNow_52 rfl ?_
            have hn2 : cntC (N 0) (N 1) i = cntC (N 0) (N 1) (i + 1) := by
              have hng : ¬ (i % 2 ^ N 0 i = i ∧ N 1 i = 0) := fun q => absurd q.2 (by omega)
              rw [cntC, if_neg hng]
            refine V.stk (st' := [.int (nI (drB (F 6) + cntC (N 0) (N 1) (i + 1)))]) (by first | (rw [← hn2]; done) | (rw [← hn2]; rfl)) ?_
            refine V.istore_n (L' := [some (.ref (y)), some (.int (nI (drB (F 6) + cntC (N 0) (N 1) (i + 1)))), some (.int (nI (i)))]) k dX3_syncNow_53 (Nat.le_of_ble_eq_true rfl) rfl ?_
            refine V.iinc (x := (nI (i))) (v := (nI (i + 1))) (L' := [some (.ref (y)), some (.int (nI (drB (F 6) + cntC (N 0) (N 1) (i + 1)))), some (.int (nI (i + 1)))]) k dX3_syncNow_54 rfl (nI_inc1 _) rfl ?_
            refine V.goto (tgt := 19) k dX3_syncNow_57 (by decide) ?_
            exact ih (i + 1) (by omega) (by omega)
          · refine V.iload_n k dX3_syncNow_46 rfl ?_
            refine V.iconst (v := nI 1) k dX3_syncNow_47 (by decide) ?_
            refine V.iadd (v := (nI ((drB (F 6) + cntC (N 0) (N 1) i) + 1))) k dX3_syncNow_48 (nI_add _ _) ?_
            refine V.goto (tgt := 53) k dX3_syncNow_49 (by decide) ?_
            have hn2 : cntC (N 0) (N 1) i + 1 = cntC (N 0) (N 1) (i + 1) := by rw [cntC, if_pos ⟨by simpa using hf, hz⟩]
            refine V.stk (st' := [.int (nI (drB (F 6) + cntC (N 0) (N 1) (i + 1)))]) (by first | (rw [← hn2]; done) | (rw [← hn2]; rfl)) ?_
            refine V.istore_n (L' := [some (.ref (y)), some (.int (nI (drB (F 6) + cntC (N 0) (N 1) (i + 1)))), some (.int (nI (i)))]) k dX3_syncNow_53 (Nat.le_of_ble_eq_true rfl) rfl ?_
            refine V.iinc (x := (nI (i))) (v := (nI (i + 1))) (L' := [some (.ref (y)), some (.int (nI (drB (F 6) + cntC (N 0) (N 1) (i + 1)))), some (.int (nI (i + 1)))]) k dX3_syncNow_54 rfl (nI_inc1 _) rfl ?_
            refine V.goto (tgt := 19) k dX3_syncNow_57 (by decide) ?_
            exact ih (i + 1) (by omega) (by omega)
  refine V.aload_n k dX3_syncNow_0 rfl ?_
  refine V.getf (v := .int (nI (F 17))) k dX3_syncNow_1 fl_X3_syncNow_99 (ms_o y F K N Z G0) rfl ?_
  refine V.z_ne (tgt := 9) k dX3_syncNow_4 (by decide) (by omega) (fun hc => ?_) (fun hc => ?_)
  · refine V.aload_n k dX3_syncNow_9 rfl ?_
    refine V.getf (v := .int (nI (F 6))) k dX3_syncNow_10 fl_X3_syncNow_56 (ms_o y F K N Z G0) rfl ?_
    refine V.cS (As := [.int (nI (F 6))]) (st1 := [.int (nI (drB (F 6)))]) k dX3_syncNow_13 (c_X3_directory l w _ sz (F 6) (by omega)) gX3_syncNow_X3_directory rfl hd_X3_directory ⟨⟨Nat.le_of_ble_eq_true rfl, Nat.le_of_ble_eq_true rfl⟩, Nat.le_of_ble_eq_true rfl, Nat.le_of_ble_eq_true rfl⟩ rfl rfl rfl (Nat.le_of_ble_eq_true rfl) rfl ?_
    refine V.stk (st' := [.int (nI (drB (F 6) + cntC (N 0) (N 1) 0))]) rfl ?_
    refine V.istore_n (L' := [some (.ref (y)), some (.int (nI (drB (F 6) + cntC (N 0) (N 1) 0))), none]) k dX3_syncNow_16 (Nat.le_of_ble_eq_true rfl) rfl ?_
    refine V.iconst (v := nI 0) k dX3_syncNow_17 (by decide) ?_
    refine V.istore_n (L' := [some (.ref (y)), some (.int (nI (drB (F 6) + cntC (N 0) (N 1) 0))), some (.int (nI (0)))]) k dX3_syncNow_18 (Nat.le_of_ble_eq_true rfl) rfl ?_
    exact lp (2 ^ F 6 + 1) 0 (by omega) (by omega)
  · exact absurd hc (by omega)
set_option maxHeartbeats 4000000 in
set_option maxRecDepth 100000 in
theorem c_X3_syncNow_ok (l : Launch) (w : Wd) (y sz : Nat) (F : Nat → Nat) (K : Nat → Nat → Int32) (N : Nat → Nat → Nat) (Z : Nat → Nat → Bool) (G0 : Pic) (hd : F 6 ≤ 8) (hl : ∀ e, e < 2 ^ F 6 → N 0 e ≤ 30) (hh : ∀ e, e < 2 ^ F 6 → N 1 e ≤ 200) (hB : 8 ≤ F 1) (hB2 : F 1 ≤ 200) (hch : F 17 ≤ 1) (hcr : F 19 < 2 ^ 31) (hwr : F 20 < 1000000) (hC : F 17 = 1) (hN : syA F N ≤ cntE (Z 0) (F 1 - 2)) (hR : ¬ (0 < F 19 ∧ F 19 ≤ syA F N + 1)) (hn : F 5 ≤ 3100) (hok : SeOk (syF F N) N Z (drB (F 6))) : Ct l w yX3_syncNow wsX3_syncNow ⟨3, 0, 0, 65⟩ [.ref (y)] (mset y F K N Z G0) sz (rt (some (.int (nI 0))) (mset y (seF (syF F N)) (cpK K (syF F N 5)) (cpN (mkN N (seH (syF F N) N Z)) 256) (mkZ Z (seS (syF F N) N Z (drB (F 6))) (seT (syF F N) N Z (drB (F 6)))) G0) sz) := by
  refine Ct.of (cc := cX3_syncNow) (maxL := 3) (ret := (some .int)) (L := [some (.ref (y)), none, none]) (by decide +kernel) rfl (by simp [Value.category]) (by simp) rfl ?_
  intro p e s m args below meth c k hM
  have h8 := p2le hd
  have hp0 := p2pos (F 6)
  have hdr := drB_le hd
  have hcc := cntC_le (N 0) (N 1) (2 ^ F 6)
  have hce := cntE_le (Z 0) (F 1 - 2)
  have lp : ∀ (n i : Nat) , i ≤ 2 ^ F 6 → 2 ^ F 6 - i < n → V p l e ⟨3, 0, 0, 65⟩ s m args below meth c w (mset y F K N Z G0) sz 0 0 (mQ w below args s ⟨3, 0, 0, 65⟩ (rt (some (.int (nI 0))) (mset y (seF (syF F N)) (cpK K (syF F N 5)) (cpN (mkN N (seH (syF F N) N Z)) 256) (mkZ Z (seS (syF F N) N Z (drB (F 6))) (seT (syF F N) N Z (drB (F 6)))) G0) sz)) 19 [some (.ref (y)), some (.int (nI (drB (F 6) + cntC (N 0) (N 1) i))), some (.int (nI (i)))] [] := by
    intro n
    induction n with
    | zero => intro i  h1 h2 ; omega
    | succ n ih =>
      intro i  h1 h2 
      have hci := cntC_le (N 0) (N 1) i
      refine V.iload_n k dX3_syncNow_19 rfl ?_
      refine V.iconst (v := nI 1) k dX3_syncNow_20 (by decide) ?_
      refine V.aload_n k dX3_syncNow_21 rfl ?_
      refine V.getf (v := .int (nI (F 6))) k dX3_syncNow_22 fl_X3_syncNow_56 (ms_o y F K N Z G0) rfl ?_
      refine V.ishl (v := (nI (2 ^ (F 6)))) k dX3_syncNow_25 (shl1 (by omega)) ?_
      refine V.n_ge (tgt := 60) k dX3_syncNow_26 (by decide) (by omega) (by omega) (fun hc => ?_) (fun hc => ?_)
      · have hi : i = 2 ^ F 6 := by omega
        subst hi
        have hA : syA F N = drB (F 6) + cntC (N 0) (N 1) (2 ^ F 6) := rfl
        rw [← hA]
        have hAl : syA F N ≤ 264 := by omega
        have hs6 : syF F N 6 = F 6 := rfl
        have hs5 : syF F N 5 = F 5 := rfl
        refine V.iload_n k dX3_syncNow_60 rfl ?_
        refine V.aload_n k dX3_syncNow_61 rfl ?_
        refine V.cV (As := []) (ci := 3) (st1 := [.int (nI (cntE (Z 0) (F 1 - 2))), .int (nI (syA F N))]) k dX3_syncNow_62 (c_X3_freeCount l w y sz F K N Z G0 hB hB2) gX3_syncNow_X3_freeCount rfl rfl (ms_o y F K N Z G0) ⟨rfl, hd_X3_freeCount⟩ ⟨⟨Nat.le_of_ble_eq_true rfl, Nat.le_of_ble_eq_true rfl⟩, Nat.le_of_ble_eq_true rfl, Nat.le_of_ble_eq_true rfl⟩ rfl rfl rfl (Nat.le_of_ble_eq_true rfl) rfl ?_
        refine V.n_le (tgt := 71) k dX3_syncNow_65 (by decide) (by omega) (by omega) (fun hq => ?_) (fun hq => ?_)
        · refine V.iinc (x := (nI (syA F N))) (v := (nI (syA F N + 1))) (L' := [some (.ref (y)), some (.int (nI (syA F N + 1))), some (.int (nI (2 ^ F 6)))]) k dX3_syncNow_71 rfl (nI_inc1 _) rfl ?_
          refine V.aload_n k dX3_syncNow_74 rfl ?_
          refine V.getf (v := .int (nI (F 19))) k dX3_syncNow_75 fl_X3_syncNow_119 (ms_o y F K N Z G0) rfl ?_
          refine V.z_le (tgt := 117) k dX3_syncNow_78 (by decide) (by omega) (fun h1 => ?_) (fun h1 => ?_)
          · refine V.aload_n k dX3_syncNow_117 rfl ?_
            refine V.aload_n k dX3_syncNow_118 rfl ?_
            refine V.getf (v := .int (nI (F 19))) k dX3_syncNow_119 fl_X3_syncNow_119 (ms_o y F K N Z G0) rfl ?_
            refine V.z_le (tgt := 134) k dX3_syncNow_122 (by decide) (by omega) (fun h3 => ?_) (fun h3 => ?_)
            · refine V.iconst (v := nI 0) k dX3_syncNow_134 (by decide) ?_
              refine V.stk (st' := [.int (nI (F 19 - (syA F N + 1))), .ref y]) (by rw [show F 19 - (syA F N + 1) = 0 by omega]) ?_
              refine V.putf (fs' := mF y (va_up F 19 (F 19 - (syA F N + 1)))) k dX3_syncNow_135 fl_X3_syncNow_119 ft_X3_19 (ms_o y F K N Z G0) (by first | rfl | decide) rfl (Nat.le_of_ble_eq_true rfl) (by simp [va_up]) ?_
              refine V.pic (msF y F K N Z G0 (va_up F 19 (F 19 - (syA F N + 1)))) ?_
              refine V.aload_n k dX3_syncNow_138 rfl ?_
              refine V.aload_n k dX3_syncNow_139 rfl ?_
              refine V.getf (v := .int (nI (F 20))) k dX3_syncNow_140 fl_X3_syncNow_122 (ms_o y (va_up F 19 (F 19 - (syA F N + 1))) K N Z G0) rfl ?_
              refine V.iload_n k dX3_syncNow_143 rfl ?_
              refine V.iadd (v := (nI (F 20 + (syA F N + 1)))) k dX3_syncNow_144 (nI_add _ _) ?_
              refine V.putf (fs' := mF y (va_up (va_up F 19 (F 19 - (syA F N + 1))) 20 (F 20 + (syA F N + 1)))) k dX3_syncNow_145 fl_X3_syncNow_122 ft_X3_20 (ms_o y (va_up F 19 (F 19 - (syA F N + 1))) K N Z G0) (by first | rfl | decide) rfl (Nat.le_of_ble_eq_true rfl) (by simp [va_up]) ?_
              refine V.pic (msF y (va_up F 19 (F 19 - (syA F N + 1))) K N Z G0 (va_up (va_up F 19 (F 19 - (syA F N + 1))) 20 (F 20 + (syA F N + 1)))) ?_
              refine V.pic (show _ = mset y (syF F N) K N Z G0 from rfl) ?_
              refine V.aload_n k dX3_syncNow_148 rfl ?_
              refine V.aload_n k dX3_syncNow_149 rfl ?_
              refine V.getf (v := .int (nI (F 6))) k dX3_syncNow_150 fl_X3_syncNow_56 (ms_o y (syF F N) K N Z G0) rfl ?_
              refine V.cS (As := [.int (nI (F 6))]) (st1 := [.int (nI (drB (F 6))), .ref (y)]) k dX3_syncNow_153 (c_X3_directory l w _ sz (F 6) (by omega)) gX3_syncNow_X3_directory rfl hd_X3_directory ⟨⟨Nat.le_of_ble_eq_true rfl, Nat.le_of_ble_eq_true rfl⟩, Nat.le_of_ble_eq_true rfl, Nat.le_of_ble_eq_true rfl⟩ rfl rfl rfl (Nat.le_of_ble_eq_true rfl) rfl ?_
              refine V.cV (As := [.int (nI (drB (F 6)))]) (ci := 3) (st1 := []) k dX3_syncNow_156 (c_X3_settle l w y sz (syF F N) K N Z G0 (drB (F 6)) hdr (by rw [hs5]; exact hn) hd hl hh hok) gX3_syncNow_X3_settle rfl rfl (ms_o y (syF F N) K N Z G0) ⟨rfl, hd_X3_settle⟩ ⟨⟨Nat.le_of_ble_eq_true rfl, Nat.le_of_ble_eq_true rfl⟩, Nat.le_of_ble_eq_true rfl, Nat.le_of_ble_eq_true rfl⟩ rfl rfl rfl (Nat.le_of_ble_eq_true rfl) rfl ?_
              refine V.iconst (v := nI 0) k dX3_syncNow_159 (by decide) ?_
              exact V.iret k hM dX3_syncNow_160 (Nat.le_of_ble_eq_true rfl) (Nat.le_of_ble_eq_true rfl) (rt_ok)
            · refine V.aload_n k dX3_syncNow_125 rfl ?_
              refine V.getf (v := .int (nI (F 19))) k dX3_syncNow_126 fl_X3_syncNow_119 (ms_o y F K N Z G0) rfl ?_
              refine V.iload_n k dX3_syncNow_129 rfl ?_
              refine V.isub (v := (nI (F 19 - (syA F N + 1)))) k dX3_syncNow_130 (pk_sub (by omega)) ?_
              refine V.goto (tgt := 135) k dX3_syncNow_131 (by decide) ?_
              refine V.putf (fs' := mF y (va_up F 19 (F 19 - (syA F N + 1)))) k dX3_syncNow_135 fl_X3_syncNow_119 ft_X3_19 (ms_o y F K N Z G0) (by first | rfl | decide) rfl (Nat.le_of_ble_eq_true rfl) (by simp [va_up]) ?_
              refine V.pic (msF y F K N Z G0 (va_up F 19 (F 19 - (syA F N + 1)))) ?_
              refine V.aload_n k dX3_syncNow_138 rfl ?_
              refine V.aload_n k dX3_syncNow_139 rfl ?_
              refine V.getf (v := .int (nI (F 20))) k dX3_syncNow_140 fl_X3_syncNow_122 (ms_o y (va_up F 19 (F 19 - (syA F N + 1))) K N Z G0) rfl ?_
              refine V.iload_n k dX3_syncNow_143 rfl ?_
              refine V.iadd (v := (nI (F 20 + (syA F N + 1)))) k dX3_syncNow_144 (nI_add _ _) ?_
              refine V.putf (fs' := mF y (va_up (va_up F 19 (F 19 - (syA F N + 1))) 20 (F 20 + (syA F N + 1)))) k dX3_syncNow_145 fl_X3_syncNow_122 ft_X3_20 (ms_o y (va_up F 19 (F 19 - (syA F N + 1))) K N Z G0) (by first | rfl | decide) rfl (Nat.le_of_ble_eq_true rfl) (by simp [va_up]) ?_
              refine V.pic (msF y (va_up F 19 (F 19 - (syA F N + 1))) K N Z G0 (va_up (va_up F 19 (F 19 - (syA F N + 1))) 20 (F 20 + (syA F N + 1)))) ?_
              refine V.pic (show _ = mset y (syF F N) K N Z G0 from rfl) ?_
              refine V.aload_n k dX3_syncNow_148 rfl ?_
              refine V.aload_n k dX3_syncNow_149 rfl ?_
              refine V.getf (v := .int (nI (F 6))) k dX3_syncNow_150 fl_X3_syncNow_56 (ms_o y (syF F N) K N Z G0) rfl ?_
              refine V.cS (As := [.int (nI (F 6))]) (st1 := [.int (nI (drB (F 6))), .ref (y)]) k dX3_syncNow_153 (c_X3_directory l w _ sz (F 6) (by omega)) gX3_syncNow_X3_directory rfl hd_X3_directory ⟨⟨Nat.le_of_ble_eq_true rfl, Nat.le_of_ble_eq_true rfl⟩, Nat.le_of_ble_eq_true rfl, Nat.le_of_ble_eq_true rfl⟩ rfl rfl rfl (Nat.le_of_ble_eq_true rfl) rfl ?_
              refine V.cV (As := [.int (nI (drB (F 6)))]) (ci := 3) (st1 := []) k dX3_syncNow_156 (c_X3_settle l w y sz (syF F N) K N Z G0 (drB (F 6)) hdr (by rw [hs5]; exact hn) hd hl hh hok) gX3_syncNow_X3_settle rfl rfl (ms_o y (syF F N) K N Z G0) ⟨rfl, hd_X3_settle⟩ ⟨⟨Nat.le_of_ble_eq_true rfl, Nat.le_of_ble_eq_true rfl⟩, Nat.le_of_ble_eq_true rfl, Nat.le_of_ble_eq_true rfl⟩ rfl rfl rfl (Nat.le_of_ble_eq_true rfl) rfl ?_
              refine V.iconst (v := nI 0) k dX3_syncNow_159 (by decide) ?_
              exact V.iret k hM dX3_syncNow_160 (Nat.le_of_ble_eq_true rfl) (Nat.le_of_ble_eq_true rfl) (rt_ok)
          · refine V.aload_n k dX3_syncNow_81 rfl ?_
            refine V.getf (v := .int (nI (F 19))) k dX3_syncNow_82 fl_X3_syncNow_119 (ms_o y F K N Z G0) rfl ?_
            refine V.iload_n k dX3_syncNow_85 rfl ?_
            refine V.n_gt (tgt := 117) k dX3_syncNow_86 (by decide) (by omega) (by omega) (fun h2 => ?_) (fun h2 => ?_)
            · refine V.aload_n k dX3_syncNow_117 rfl ?_
              refine V.aload_n k dX3_syncNow_118 rfl ?_
              refine V.getf (v := .int (nI (F 19))) k dX3_syncNow_119 fl_X3_syncNow_119 (ms_o y F K N Z G0) rfl ?_
              refine V.z_le (tgt := 134) k dX3_syncNow_122 (by decide) (by omega) (fun h3 => ?_) (fun h3 => ?_)
              · refine V.iconst (v := nI 0) k dX3_syncNow_134 (by decide) ?_
                refine V.stk (st' := [.int (nI (F 19 - (syA F N + 1))), .ref y]) (by rw [show F 19 - (syA F N + 1) = 0 by omega]) ?_
                refine V.putf (fs' := mF y (va_up F 19 (F 19 - (syA F N + 1)))) k dX3_syncNow_135 fl_X3_syncNow_119 ft_X3_19 (ms_o y F K N Z G0) (by first | rfl | decide) rfl (Nat.le_of_ble_eq_true rfl) (by simp [va_up]) ?_
                refine V.pic (msF y F K N Z G0 (va_up F 19 (F 19 - (syA F N + 1)))) ?_
                refine V.aload_n k dX3_syncNow_138 rfl ?_
                refine V.aload_n k dX3_syncNow_139 rfl ?_
                refine V.getf (v := .int (nI (F 20))) k dX3_syncNow_140 fl_X3_syncNow_122 (ms_o y (va_up F 19 (F 19 - (syA F N + 1))) K N Z G0) rfl ?_
                refine V.iload_n k dX3_syncNow_143 rfl ?_
                refine V.iadd (v := (nI (F 20 + (syA F N + 1)))) k dX3_syncNow_144 (nI_add _ _) ?_
                refine V.putf (fs' := mF y (va_up (va_up F 19 (F 19 - (syA F N + 1))) 20 (F 20 + (syA F N + 1)))) k dX3_syncNow_145 fl_X3_syncNow_122 ft_X3_20 (ms_o y (va_up F 19 (F 19 - (syA F N + 1))) K N Z G0) (by first | rfl | decide) rfl (Nat.le_of_ble_eq_true rfl) (by simp [va_up]) ?_
                refine V.pic (msF y (va_up F 19 (F 19 - (syA F N + 1))) K N Z G0 (va_up (va_up F 19 (F 19 - (syA F N + 1))) 20 (F 20 + (syA F N + 1)))) ?_
                refine V.pic (show _ = mset y (syF F N) K N Z G0 from rfl) ?_
                refine V.aload_n k dX3_syncNow_148 rfl ?_
                refine V.aload_n k dX3_syncNow_149 rfl ?_
                refine V.getf (v := .int (nI (F 6))) k dX3_syncNow_150 fl_X3_syncNow_56 (ms_o y (syF F N) K N Z G0) rfl ?_
                refine V.cS (As := [.int (nI (F 6))]) (st1 := [.int (nI (drB (F 6))), .ref (y)]) k dX3_syncNow_153 (c_X3_directory l w _ sz (F 6) (by omega)) gX3_syncNow_X3_directory rfl hd_X3_directory ⟨⟨Nat.le_of_ble_eq_true rfl, Nat.le_of_ble_eq_true rfl⟩, Nat.le_of_ble_eq_true rfl, Nat.le_of_ble_eq_true rfl⟩ rfl rfl rfl (Nat.le_of_ble_eq_true rfl) rfl ?_
                refine V.cV (As := [.int (nI (drB (F 6)))]) (ci := 3) (st1 := []) k dX3_syncNow_156 (c_X3_settle l w y sz (syF F N) K N Z G0 (drB (F 6)) hdr (by rw [hs5]; exact hn) hd hl hh hok) gX3_syncNow_X3_settle rfl rfl (ms_o y (syF F N) K N Z G0) ⟨rfl, hd_X3_settle⟩ ⟨⟨Nat.le_of_ble_eq_true rfl, Nat.le_of_ble_eq_true rfl⟩, Nat.le_of_ble_eq_true rfl, Nat.le_of_ble_eq_true rfl⟩ rfl rfl rfl (Nat.le_of_ble_eq_true rfl) rfl ?_
                refine V.iconst (v := nI 0) k dX3_syncNow_159 (by decide) ?_
                exact V.iret k hM dX3_syncNow_160 (Nat.le_of_ble_eq_true rfl) (Nat.le_of_ble_eq_true rfl) (rt_ok)
              · refine V.aload_n k dX3_syncNow_125 rfl ?_
                refine V.getf (v := .int (nI (F 19))) k dX3_syncNow_126 fl_X3_syncNow_119 (ms_o y F K N Z G0) rfl ?_
                refine V.iload_n k dX3_syncNow_129 rfl ?_
                refine V.isub (v := (nI (F 19 - (syA F N + 1)))) k dX3_syncNow_130 (pk_sub (by omega)) ?_
                refine V.goto (tgt := 135) k dX3_syncNow_131 (by decide) ?_
                refine V.putf (fs' := mF y (va_up F 19 (F 19 - (syA F N + 1)))) k dX3_syncNow_135 fl_X3_syncNow_119 ft_X3_19 (ms_o y F K N Z G0) (by first | rfl | decide) rfl (Nat.le_of_ble_eq_true rfl) (by simp [va_up]) ?_
                refine V.pic (msF y F K N Z G0 (va_up F 19 (F 19 - (syA F N + 1)))) ?_
                refine V.aload_n k dX3_syncNow_138 rfl ?_
                refine V.aload_n k dX3_syncNow_139 rfl ?_
                refine V.getf (v := .int (nI (F 20))) k dX3_syncNow_140 fl_X3_syncNow_122 (ms_o y (va_up F 19 (F 19 - (syA F N + 1))) K N Z G0) rfl ?_
                refine V.iload_n k dX3_syncNow_143 rfl ?_
                refine V.iadd (v := (nI (F 20 + (syA F N + 1)))) k dX3_syncNow_144 (nI_add _ _) ?_
                refine V.putf (fs' := mF y (va_up (va_up F 19 (F 19 - (syA F N + 1))) 20 (F 20 + (syA F N + 1)))) k dX3_syncNow_145 fl_X3_syncNow_122 ft_X3_20 (ms_o y (va_up F 19 (F 19 - (syA F N + 1))) K N Z G0) (by first | rfl | decide) rfl (Nat.le_of_ble_eq_true rfl) (by simp [va_up]) ?_
                refine V.pic (msF y (va_up F 19 (F 19 - (syA F N + 1))) K N Z G0 (va_up (va_up F 19 (F 19 - (syA F N + 1))) 20 (F 20 + (syA F N + 1)))) ?_
                refine V.pic (show _ = mset y (syF F N) K N Z G0 from rfl) ?_
                refine V.aload_n k dX3_syncNow_148 rfl ?_
                refine V.aload_n k dX3_syncNow_149 rfl ?_
                refine V.getf (v := .int (nI (F 6))) k dX3_syncNow_150 fl_X3_syncNow_56 (ms_o y (syF F N) K N Z G0) rfl ?_
                refine V.cS (As := [.int (nI (F 6))]) (st1 := [.int (nI (drB (F 6))), .ref (y)]) k dX3_syncNow_153 (c_X3_directory l w _ sz (F 6) (by omega)) gX3_syncNow_X3_directory rfl hd_X3_directory ⟨⟨Nat.le_of_ble_eq_true rfl, Nat.le_of_ble_eq_true rfl⟩, Nat.le_of_ble_eq_true rfl, Nat.le_of_ble_eq_true rfl⟩ rfl rfl rfl (Nat.le_of_ble_eq_true rfl) rfl ?_
                refine V.cV (As := [.int (nI (drB (F 6)))]) (ci := 3) (st1 := []) k dX3_syncNow_156 (c_X3_settle l w y sz (syF F N) K N Z G0 (drB (F 6)) hdr (by rw [hs5]; exact hn) hd hl hh hok) gX3_syncNow_X3_settle rfl rfl (ms_o y (syF F N) K N Z G0) ⟨rfl, hd_X3_settle⟩ ⟨⟨Nat.le_of_ble_eq_true rfl, Nat.le_of_ble_eq_true rfl⟩, Nat.le_of_ble_eq_true rfl, Nat.le_of_ble_eq_true rfl⟩ rfl rfl rfl (Nat.le_of_ble_eq_true rfl) rfl ?_
                refine V.iconst (v := nI 0) k dX3_syncNow_159 (by decide) ?_
                exact V.iret k hM dX3_syncNow_160 (Nat.le_of_ble_eq_true rfl) (Nat.le_of_ble_eq_true rfl) (rt_ok)
            · exact absurd ⟨h1, h2⟩ hR
        · exact absurd hq (by omega)
      · have hhi := hh i hc
        have hli := hl i hc
        refine V.aload_n k dX3_syncNow_29 rfl ?_
        refine V.iload_n k dX3_syncNow_30 rfl ?_
        refine V.cV (As := [.int (nI (i))]) (ci := 3) (st1 := [.int (bI (decide (i % 2 ^ N 0 i = i)))]) k dX3_syncNow_31 (c_X3_isFirst l w y sz F K N Z G0 i (by omega) hli) gX3_syncNow_X3_isFirst rfl rfl (ms_o y F K N Z G0) ⟨rfl, hd_X3_isFirst⟩ ⟨⟨Nat.le_of_ble_eq_true rfl, Nat.le_of_ble_eq_true rfl⟩, Nat.le_of_ble_eq_true rfl, Nat.le_of_ble_eq_true rfl⟩ rfl rfl rfl (Nat.le_of_ble_eq_true rfl) rfl ?_
        refine V.b_eq (tgt := 52) k dX3_syncNow_34 (by decide) (fun hf => ?_) (fun hf => ?_)
        · refine V.iload_n k dX3_syncNow_52 rfl ?_
          have hn2 : cntC (N 0) (N 1) i = cntC (N 0) (N 1) (i + 1) := by
            have hf2 : ¬ i % 2 ^ N 0 i = i := by simpa using hf
            have hng : ¬ (i % 2 ^ N 0 i = i ∧ N 1 i = 0) := fun q => hf2 q.1
            rw [cntC, if_neg hng]
          refine V.stk (st' := [.int (nI (drB (F 6) + cntC (N 0) (N 1) (i + 1)))]) (by first | (rw [← hn2]; done) | (rw [← hn2]; rfl)) ?_
          refine V.istore_n (L' := [some (.ref (y)), some (.int (nI (drB (F 6) + cntC (N 0) (N 1) (i + 1)))), some (.int (nI (i)))]) k dX3_syncNow_53 (Nat.le_of_ble_eq_true rfl) rfl ?_
          refine V.iinc (x := (nI (i))) (v := (nI (i + 1))) (L' := [some (.ref (y)), some (.int (nI (drB (F 6) + cntC (N 0) (N 1) (i + 1)))), some (.int (nI (i + 1)))]) k dX3_syncNow_54 rfl (nI_inc1 _) rfl ?_
          refine V.goto (tgt := 19) k dX3_syncNow_57 (by decide) ?_
          exact ih (i + 1) (by omega) (by omega)
        · refine V.aload_n k dX3_syncNow_37 rfl ?_
          refine V.getf (v := .ref (y + 4)) k dX3_syncNow_38 fl_X3_syncNow_19 (ms_o y F K N Z G0) rfl ?_
          refine V.iload_n k dX3_syncNow_41 rfl ?_
          refine V.iald (v := (nI (N 1 (i)))) k dX3_syncNow_42 (ms_4 y F K N Z G0) rfl (by omega) (by omega) (rfl) ?_
          refine V.z_ne (tgt := 52) k dX3_syncNow_43 (by decide) (by omega) (fun hz => ?_) (fun hz => ?_)
          · refine V.iload_n k dX3_syncNow_52 rfl ?_
            have hn2 : cntC (N 0) (N 1) i = cntC (N 0) (N 1) (i + 1) := by
              have hng : ¬ (i % 2 ^ N 0 i = i ∧ N 1 i = 0) := fun q => absurd q.2 (by omega)
              rw [cntC, if_neg hng]
            refine V.stk (st' := [.int (nI (drB (F 6) + cntC (N 0) (N 1) (i + 1)))]) (by first | (rw [← hn2]; done) | (rw [← hn2]; rfl)) ?_
            refine V.istore_n (L' := [some (.ref (y)), some (.int (nI (drB (F 6) + cntC (N 0) (N 1) (i + 1)))), some (.int (nI (i)))]) k dX3_syncNow_53 (Nat.le_of_ble_eq_true rfl) rfl ?_
            refine V.iinc (x := (nI (i))) (v := (nI (i + 1))) (L' := [some (.ref (y)), some (.int (nI (drB (F 6) + cntC (N 0) (N 1) (i + 1)))), some (.int (nI (i + 1)))]) k dX3_syncNow_54 rfl (nI_inc1 _) rfl ?_
            refine V.goto (tgt := 19) k dX3_syncNow_57 (by decide) ?_
            exact ih (i + 1) (by omega) (by omega)
          · refine V.iload_n k dX3_syncNow_46 rfl ?_
            refine V.iconst (v := nI 1) k dX3_syncNow_47 (by decide) ?_
            refine V.iadd (v := (nI ((drB (F 6) + cntC (N 0) (N 1) i) + 1))) k dX3_syncNow_48 (nI_add _ _) ?_
            refine V.goto (tgt := 53) k dX3_syncNow_49 (by decide) ?_
            have hn2 : cntC (N 0) (N 1) i + 1 = cntC (N 0) (N 1) (i + 1) := by rw [cntC, if_pos ⟨by simpa using hf, hz⟩]
            refine V.stk (st' := [.int (nI (drB (F 6) + cntC (N 0) (N 1) (i + 1)))]) (by first | (rw [← hn2]; done) | (rw [← hn2]; rfl)) ?_
            refine V.istore_n (L' := [some (.ref (y)), some (.int (nI (drB (F 6) + cntC (N 0) (N 1) (i + 1)))), some (.int (nI (i)))]) k dX3_syncNow_53 (Nat.le_of_ble_eq_true rfl) rfl ?_
            refine V.iinc (x := (nI (i))) (v := (nI (i + 1))) (L' := [some (.ref (y)), some (.int (nI (drB (F 6) + cntC (N 0) (N 1) (i + 1)))), some (.int (nI (i + 1)))]) k dX3_syncNow_54 rfl (nI_inc1 _) rfl ?_
            refine V.goto (tgt := 19) k dX3_syncNow_57 (by decide) ?_
            exact ih (i + 1) (by omega) (by omega)
  refine V.aload_n k dX3_syncNow_0 rfl ?_
  refine V.getf (v := .int (nI (F 17))) k dX3_syncNow_1 fl_X3_syncNow_99 (ms_o y F K N Z G0) rfl ?_
  refine V.z_ne (tgt := 9) k dX3_syncNow_4 (by decide) (by omega) (fun hc => ?_) (fun hc => ?_)
  · refine V.aload_n k dX3_syncNow_9 rfl ?_
    refine V.getf (v := .int (nI (F 6))) k dX3_syncNow_10 fl_X3_syncNow_56 (ms_o y F K N Z G0) rfl ?_
    refine V.cS (As := [.int (nI (F 6))]) (st1 := [.int (nI (drB (F 6)))]) k dX3_syncNow_13 (c_X3_directory l w _ sz (F 6) (by omega)) gX3_syncNow_X3_directory rfl hd_X3_directory ⟨⟨Nat.le_of_ble_eq_true rfl, Nat.le_of_ble_eq_true rfl⟩, Nat.le_of_ble_eq_true rfl, Nat.le_of_ble_eq_true rfl⟩ rfl rfl rfl (Nat.le_of_ble_eq_true rfl) rfl ?_
    refine V.stk (st' := [.int (nI (drB (F 6) + cntC (N 0) (N 1) 0))]) rfl ?_
    refine V.istore_n (L' := [some (.ref (y)), some (.int (nI (drB (F 6) + cntC (N 0) (N 1) 0))), none]) k dX3_syncNow_16 (Nat.le_of_ble_eq_true rfl) rfl ?_
    refine V.iconst (v := nI 0) k dX3_syncNow_17 (by decide) ?_
    refine V.istore_n (L' := [some (.ref (y)), some (.int (nI (drB (F 6) + cntC (N 0) (N 1) 0))), some (.int (nI (0)))]) k dX3_syncNow_18 (Nat.le_of_ble_eq_true rfl) rfl ?_
    exact lp (2 ^ F 6 + 1) 0 (by omega) (by omega)
  · exact absurd hc (by omega)
theorem fl_X3_sync_48 : FL wsX3_sync RX3 48 3 0 := ⟨RX3, TX3, 21, rfl, (fun _ h => List.mem_cons_of_mem _ (List.mem_append_right _ h)), by decide, List.mem_of_getElem? (i := 1) rfl, rfl⟩
theorem fl_X3_sync_87 : FL wsX3_sync RX3 87 3 18 := ⟨RX3, TX3, 21, rfl, (fun _ h => List.mem_cons_of_mem _ (List.mem_append_right _ h)), by decide, List.mem_of_getElem? (i := 2) rfl, rfl⟩
set_option maxHeartbeats 4000000 in
set_option maxRecDepth 100000 in
theorem c_X3_sync_dn (l : Launch) (w : Wd) (y sz : Nat) (F : Nat → Nat) (K : Nat → Nat → Int32) (N : Nat → Nat → Nat) (Z : Nat → Nat → Bool) (G0 : Pic) (hF0 : F 0 = 0) (hdn : F 18 ≤ 1) (hD : F 18 = 1) : Ct l w yX3_sync wsX3_sync ⟨4, 0, 0, 87⟩ [.ref (y)] (mset y F K N Z G0) sz (rt (some (.int (-2000000003))) (mset y F K N Z G0) sz) := by
  refine Ct.of (cc := cX3_sync) (maxL := 1) (ret := (some .int)) (L := [some (.ref (y))]) (by decide +kernel) rfl (by simp [Value.category]) (by simp) rfl ?_
  intro p e s m args below meth c k hM
  refine V.aload_n k dX3_sync_0 rfl ?_
  refine V.iconst (v := nI 0) k dX3_sync_1 (by decide) ?_
  refine V.putf (fs' := mF y (va_up F 0 (0))) k dX3_sync_2 fl_X3_sync_48 ft_X3_0 (ms_o y F K N Z G0) (by first | rfl | decide) rfl (Nat.le_of_ble_eq_true rfl) (by simp [va_up]) ?_
  refine V.pic (msF y F K N Z G0 (va_up F 0 (0))) ?_
  refine V.pic (by rw [va_up_id hF0]) ?_
  refine V.aload_n k dX3_sync_5 rfl ?_
  refine V.getf (v := .int (nI (F 18))) k dX3_sync_6 fl_X3_sync_87 (ms_o y F K N Z G0) rfl ?_
  refine V.z_eq (tgt := 17) k dX3_sync_9 (by decide) (by omega) (fun hd => ?_) (fun hd => ?_)
  · exact absurd hd (by omega)
  · refine V.ldc (v := (-2000000003)) k dX3_sync_12 (List.mem_of_getElem? (i := 3) rfl) ?_
    refine V.goto (tgt := 21) k dX3_sync_14 (by decide) ?_
    exact V.iret k hM dX3_sync_21 (Nat.le_of_ble_eq_true rfl) (Nat.le_of_ble_eq_true rfl) (rt_ok)
set_option maxHeartbeats 4000000 in
set_option maxRecDepth 100000 in
theorem c_X3_sync (l : Launch) (w : Wd) (y sz : Nat) (F : Nat → Nat) (K : Nat → Nat → Int32) (N : Nat → Nat → Nat) (Z : Nat → Nat → Bool) (G0 : Pic) (hF0 : F 0 = 0) (hdn : F 18 ≤ 1) (hD : F 18 = 0) (a0 : Int32) (G1 : Pic) (hS : Ct l w yX3_syncNow wsX3_syncNow ⟨3, 0, 0, 65⟩ [.ref y] (mset y F K N Z G0) sz (rt (some (.int a0)) G1 sz)) : Ct l w yX3_sync wsX3_sync ⟨4, 0, 0, 87⟩ [.ref (y)] (mset y F K N Z G0) sz (rt (some (.int a0)) G1 sz) := by
  refine Ct.of (cc := cX3_sync) (maxL := 1) (ret := (some .int)) (L := [some (.ref (y))]) (by decide +kernel) rfl (by simp [Value.category]) (by simp) rfl ?_
  intro p e s m args below meth c k hM
  refine V.aload_n k dX3_sync_0 rfl ?_
  refine V.iconst (v := nI 0) k dX3_sync_1 (by decide) ?_
  refine V.putf (fs' := mF y (va_up F 0 (0))) k dX3_sync_2 fl_X3_sync_48 ft_X3_0 (ms_o y F K N Z G0) (by first | rfl | decide) rfl (Nat.le_of_ble_eq_true rfl) (by simp [va_up]) ?_
  refine V.pic (msF y F K N Z G0 (va_up F 0 (0))) ?_
  refine V.pic (by rw [va_up_id hF0]) ?_
  refine V.aload_n k dX3_sync_5 rfl ?_
  refine V.getf (v := .int (nI (F 18))) k dX3_sync_6 fl_X3_sync_87 (ms_o y F K N Z G0) rfl ?_
  refine V.z_eq (tgt := 17) k dX3_sync_9 (by decide) (by omega) (fun hd => ?_) (fun hd => ?_)
  · refine V.aload_n k dX3_sync_17 rfl ?_
    refine V.cV (As := []) (ci := 3) (st1 := [.int (a0)]) k dX3_sync_18 (hS) gX3_sync_X3_syncNow rfl rfl (ms_o y F K N Z G0) ⟨rfl, hd_X3_syncNow⟩ ⟨⟨Nat.le_of_ble_eq_true rfl, Nat.le_of_ble_eq_true rfl⟩, Nat.le_of_ble_eq_true rfl, Nat.le_of_ble_eq_true rfl⟩ rfl rfl rfl (Nat.le_of_ble_eq_true rfl) rfl ?_
    exact V.iret k hM dX3_sync_21 (Nat.le_of_ble_eq_true rfl) (Nat.le_of_ble_eq_true rfl) (rt_ok)
  · exact absurd hd (by omega)
def fmF (F : Nat → Nat) : Nat → Nat := va_up (va_up (va_up F 5 0) 6 0) 17 1
def fmN (N : Nat → Nat → Nat) : Nat → Nat → Nat := va_up (va_up N 0 (va_up (N 0) 0 0)) 1 (va_up (va_up N 0 (va_up (N 0) 0 0) 1) 0 0)
theorem fl_X3_format_48 : FL wsX3_format RX3 48 3 0 := ⟨RX3, TX3, 21, rfl, (fun _ h => List.mem_cons_of_mem _ (List.mem_append_right _ h)), by decide, List.mem_of_getElem? (i := 1) rfl, rfl⟩
theorem fl_X3_format_87 : FL wsX3_format RX3 87 3 18 := ⟨RX3, TX3, 21, rfl, (fun _ h => List.mem_cons_of_mem _ (List.mem_append_right _ h)), by decide, List.mem_of_getElem? (i := 2) rfl, rfl⟩
theorem fl_X3_format_63 : FL wsX3_format RX3 63 3 5 := ⟨RX3, TX3, 21, rfl, (fun _ h => List.mem_cons_of_mem _ (List.mem_append_right _ h)), by decide, List.mem_of_getElem? (i := 4) rfl, rfl⟩
theorem fl_X3_format_56 : FL wsX3_format RX3 56 3 6 := ⟨RX3, TX3, 21, rfl, (fun _ h => List.mem_cons_of_mem _ (List.mem_append_right _ h)), by decide, List.mem_of_getElem? (i := 5) rfl, rfl⟩
theorem fl_X3_format_16 : FL wsX3_format RX3 16 3 7 := ⟨RX3, TX3, 21, rfl, (fun _ h => List.mem_cons_of_mem _ (List.mem_append_right _ h)), by decide, List.mem_of_getElem? (i := 6) rfl, rfl⟩
theorem fl_X3_format_19 : FL wsX3_format RX3 19 3 8 := ⟨RX3, TX3, 21, rfl, (fun _ h => List.mem_cons_of_mem _ (List.mem_append_right _ h)), by decide, List.mem_of_getElem? (i := 7) rfl, rfl⟩
theorem fl_X3_format_99 : FL wsX3_format RX3 99 3 17 := ⟨RX3, TX3, 21, rfl, (fun _ h => List.mem_cons_of_mem _ (List.mem_append_right _ h)), by decide, List.mem_of_getElem? (i := 8) rfl, rfl⟩
set_option maxHeartbeats 4000000 in
set_option maxRecDepth 100000 in
theorem c_X3_format_dn (l : Launch) (w : Wd) (y sz : Nat) (F : Nat → Nat) (K : Nat → Nat → Int32) (N : Nat → Nat → Nat) (Z : Nat → Nat → Bool) (G0 : Pic) (hF0 : F 0 = 0) (hdn : F 18 ≤ 1) (hD : F 18 = 1) : Ct l w yX3_format wsX3_format ⟨4, 0, 0, 87⟩ [.ref (y)] (mset y F K N Z G0) sz (rt (some (.int (-2000000003))) (mset y F K N Z G0) sz) := by
  refine Ct.of (cc := cX3_format) (maxL := 1) (ret := (some .int)) (L := [some (.ref (y))]) (by decide +kernel) rfl (by simp [Value.category]) (by simp) rfl ?_
  intro p e s m args below meth c k hM
  refine V.aload_n k dX3_format_0 rfl ?_
  refine V.iconst (v := nI 0) k dX3_format_1 (by decide) ?_
  refine V.putf (fs' := mF y (va_up F 0 (0))) k dX3_format_2 fl_X3_format_48 ft_X3_0 (ms_o y F K N Z G0) (by first | rfl | decide) rfl (Nat.le_of_ble_eq_true rfl) (by simp [va_up]) ?_
  refine V.pic (msF y F K N Z G0 (va_up F 0 (0))) ?_
  refine V.pic (by rw [va_up_id hF0]) ?_
  refine V.aload_n k dX3_format_5 rfl ?_
  refine V.getf (v := .int (nI (F 18))) k dX3_format_6 fl_X3_format_87 (ms_o y F K N Z G0) rfl ?_
  refine V.z_eq (tgt := 15) k dX3_format_9 (by decide) (by omega) (fun hd => ?_) (fun hd => ?_)
  · exact absurd hd (by omega)
  · refine V.ldc (v := (-2000000003)) k dX3_format_12 (List.mem_of_getElem? (i := 3) rfl) ?_
    exact V.iret k hM dX3_format_14 (Nat.le_of_ble_eq_true rfl) (Nat.le_of_ble_eq_true rfl) (rt_ok)
set_option maxHeartbeats 4000000 in
set_option maxRecDepth 100000 in
theorem c_X3_format (l : Launch) (w : Wd) (y sz : Nat) (F : Nat → Nat) (K : Nat → Nat → Int32) (N : Nat → Nat → Nat) (Z : Nat → Nat → Bool) (G0 : Pic) (hF0 : F 0 = 0) (hdn : F 18 ≤ 1) (hD : F 18 = 0) (a0 : Int32) (G1 : Pic) (hS : Ct l w yX3_syncNow wsX3_syncNow ⟨3, 0, 0, 65⟩ [.ref y] (mset y (fmF F) K (fmN N) Z G0) sz (rt (some (.int a0)) G1 sz)) : Ct l w yX3_format wsX3_format ⟨4, 0, 0, 87⟩ [.ref (y)] (mset y F K N Z G0) sz (rt (some (.int a0)) G1 sz) := by
  refine Ct.of (cc := cX3_format) (maxL := 1) (ret := (some .int)) (L := [some (.ref (y))]) (by decide +kernel) rfl (by simp [Value.category]) (by simp) rfl ?_
  intro p e s m args below meth c k hM
  refine V.aload_n k dX3_format_0 rfl ?_
  refine V.iconst (v := nI 0) k dX3_format_1 (by decide) ?_
  refine V.putf (fs' := mF y (va_up F 0 (0))) k dX3_format_2 fl_X3_format_48 ft_X3_0 (ms_o y F K N Z G0) (by first | rfl | decide) rfl (Nat.le_of_ble_eq_true rfl) (by simp [va_up]) ?_
  refine V.pic (msF y F K N Z G0 (va_up F 0 (0))) ?_
  refine V.pic (by rw [va_up_id hF0]) ?_
  refine V.aload_n k dX3_format_5 rfl ?_
  refine V.getf (v := .int (nI (F 18))) k dX3_format_6 fl_X3_format_87 (ms_o y F K N Z G0) rfl ?_
  refine V.z_eq (tgt := 15) k dX3_format_9 (by decide) (by omega) (fun hd => ?_) (fun hd => ?_)
  · refine V.aload_n k dX3_format_15 rfl ?_
    refine V.iconst (v := nI 0) k dX3_format_16 (by decide) ?_
    refine V.putf (fs' := mF y (va_up F 5 (0))) k dX3_format_17 fl_X3_format_63 ft_X3_5 (ms_o y F K N Z G0) (by first | rfl | decide) rfl (Nat.le_of_ble_eq_true rfl) (by simp [va_up]) ?_
    refine V.pic (msF y F K N Z G0 (va_up F 5 (0))) ?_
    refine V.aload_n k dX3_format_20 rfl ?_
    refine V.iconst (v := nI 0) k dX3_format_21 (by decide) ?_
    refine V.putf (fs' := mF y (va_up (va_up F 5 (0)) 6 (0))) k dX3_format_22 fl_X3_format_56 ft_X3_6 (ms_o y (va_up F 5 (0)) K N Z G0) (by first | rfl | decide) rfl (Nat.le_of_ble_eq_true rfl) (by simp [va_up]) ?_
    refine V.pic (msF y (va_up F 5 (0)) K N Z G0 (va_up (va_up F 5 (0)) 6 (0))) ?_
    refine V.aload_n k dX3_format_25 rfl ?_
    refine V.getf (v := .ref (y + 3)) k dX3_format_26 fl_X3_format_16 (ms_o y (va_up (va_up F 5 (0)) 6 (0)) K N Z G0) rfl ?_
    refine V.iconst (v := nI 0) k dX3_format_29 (by decide) ?_
    refine V.iconst (v := nI 0) k dX3_format_30 (by decide) ?_
    refine V.iast (f' := upd (fun j => nI (N 0 j)) (0) (nI (0))) k dX3_format_31 (ms_3 y (va_up (va_up F 5 (0)) 6 (0)) K N Z G0) rfl (by omega) (by omega) rfl ?_
    refine V.pic (msw_3 y (va_up (va_up F 5 (0)) 6 (0)) K N Z G0 (0) (0)) ?_
    refine V.aload_n k dX3_format_32 rfl ?_
    refine V.getf (v := .ref (y + 4)) k dX3_format_33 fl_X3_format_19 (ms_o y (va_up (va_up F 5 (0)) 6 (0)) K (va_up N 0 (va_up (N 0) (0) (0))) Z G0) rfl ?_
    refine V.iconst (v := nI 0) k dX3_format_36 (by decide) ?_
    refine V.iconst (v := nI 0) k dX3_format_37 (by decide) ?_
    refine V.iast (f' := upd (fun j => nI ((va_up N 0 (va_up (N 0) (0) (0))) 1 j)) (0) (nI (0))) k dX3_format_38 (ms_4 y (va_up (va_up F 5 (0)) 6 (0)) K (va_up N 0 (va_up (N 0) (0) (0))) Z G0) rfl (by omega) (by omega) rfl ?_
    refine V.pic (msw_4 y (va_up (va_up F 5 (0)) 6 (0)) K (va_up N 0 (va_up (N 0) (0) (0))) Z G0 (0) (0)) ?_
    refine V.aload_n k dX3_format_39 rfl ?_
    refine V.iconst (v := nI 1) k dX3_format_40 (by decide) ?_
    refine V.putf (fs' := mF y (va_up (va_up (va_up F 5 (0)) 6 (0)) 17 (1))) k dX3_format_41 fl_X3_format_99 ft_X3_17 (ms_o y (va_up (va_up F 5 (0)) 6 (0)) K (va_up (va_up N 0 (va_up (N 0) (0) (0))) 1 (va_up ((va_up N 0 (va_up (N 0) (0) (0))) 1) (0) (0))) Z G0) (by first | rfl | decide) rfl (Nat.le_of_ble_eq_true rfl) (by simp [va_up]) ?_
    refine V.pic (msF y (va_up (va_up F 5 (0)) 6 (0)) K (va_up (va_up N 0 (va_up (N 0) (0) (0))) 1 (va_up ((va_up N 0 (va_up (N 0) (0) (0))) 1) (0) (0))) Z G0 (va_up (va_up (va_up F 5 (0)) 6 (0)) 17 (1))) ?_
    refine V.pic (show _ = mset y (fmF F) K (fmN N) Z G0 from rfl) ?_
    refine V.aload_n k dX3_format_44 rfl ?_
    refine V.cV (As := []) (ci := 3) (st1 := [.int (a0)]) k dX3_format_45 (hS) gX3_format_X3_syncNow rfl rfl (ms_o y (fmF F) K (fmN N) Z G0) ⟨rfl, hd_X3_syncNow⟩ ⟨⟨Nat.le_of_ble_eq_true rfl, Nat.le_of_ble_eq_true rfl⟩, Nat.le_of_ble_eq_true rfl, Nat.le_of_ble_eq_true rfl⟩ rfl rfl rfl (Nat.le_of_ble_eq_true rfl) rfl ?_
    exact V.iret k hM dX3_format_48 (Nat.le_of_ble_eq_true rfl) (Nat.le_of_ble_eq_true rfl) (rt_ok)
  · exact absurd hd (by omega)
def rcF (F : Nat → Nat) : Nat → Nat := va_up (va_up (va_up (va_up (va_up F 18 0) 19 0) 17 0) 5 (F 11)) 6 (F 12)
def rcK (K : Nat → Nat → Int32) (n : Nat) : Nat → Nat → Int32 := va_up (va_up K 0 (cpT (K 2) (K 0) n)) 1 (cpT (K 3) (K 1) n)
def rcN (N : Nat → Nat → Nat) (n : Nat) : Nat → Nat → Nat := va_up (va_up N 0 (cpT (N 2) (N 0) n)) 1 (cpT (N 3) (N 1) n)
theorem rcK_0 (K : Nat → Nat → Int32) : rcK K 0 = K := by
  funext i j
  unfold rcK va_up
  by_cases h1 : i = 1
  · subst h1; simp [cpT]
  · by_cases h0 : i = 0
    · subst h0; simp [cpT]
    · simp [h1, h0]
theorem rcN_0 (N : Nat → Nat → Nat) : rcN N 0 = N := by
  funext i j
  unfold rcN va_up
  by_cases h1 : i = 1
  · subst h1; simp [cpT]
  · by_cases h0 : i = 0
    · subst h0; simp [cpT]
    · simp [h1, h0]
theorem rcK_s (K : Nat → Nat → Int32) (n : Nat) : va_up (va_up (rcK K n) 0 (upd (rcK K n 0) n (rcK K n 2 n))) 1 (upd (va_up (rcK K n) 0 (upd (rcK K n 0) n (rcK K n 2 n)) 1) n (va_up (rcK K n) 0 (upd (rcK K n 0) n (rcK K n 2 n)) 3 n)) = rcK K (n + 1) := by
  funext i j
  simp only [upd_up]
  unfold rcK
  rw [← cpT_s, ← cpT_s]
  unfold va_up
  by_cases h1 : i = 1
  · subst h1; simp
  · by_cases h0 : i = 0
    · subst h0; simp
    · simp [h1, h0]
theorem rcN_s (N : Nat → Nat → Nat) (n : Nat) : va_up (va_up (rcN N n) 0 (va_up (rcN N n 0) n (rcN N n 2 n))) 1 (va_up (va_up (rcN N n) 0 (va_up (rcN N n 0) n (rcN N n 2 n)) 1) n (va_up (rcN N n) 0 (va_up (rcN N n 0) n (rcN N n 2 n)) 3 n)) = rcN N (n + 1) := by
  funext i j
  unfold rcN
  rw [← cpT_s, ← cpT_s]
  unfold va_up
  by_cases h1 : i = 1
  · subst h1; simp
  · by_cases h0 : i = 0
    · subst h0; simp
    · simp [h1, h0]
theorem fl_X3_recover_48 : FL wsX3_recover RX3 48 3 0 := ⟨RX3, TX3, 21, rfl, (fun _ h => List.mem_cons_of_mem _ (List.mem_append_right _ h)), by decide, List.mem_of_getElem? (i := 1) rfl, rfl⟩
theorem fl_X3_recover_87 : FL wsX3_recover RX3 87 3 18 := ⟨RX3, TX3, 21, rfl, (fun _ h => List.mem_cons_of_mem _ (List.mem_append_right _ h)), by decide, List.mem_of_getElem? (i := 2) rfl, rfl⟩
theorem fl_X3_recover_119 : FL wsX3_recover RX3 119 3 19 := ⟨RX3, TX3, 21, rfl, (fun _ h => List.mem_cons_of_mem _ (List.mem_append_right _ h)), by decide, List.mem_of_getElem? (i := 3) rfl, rfl⟩
theorem fl_X3_recover_99 : FL wsX3_recover RX3 99 3 17 := ⟨RX3, TX3, 21, rfl, (fun _ h => List.mem_cons_of_mem _ (List.mem_append_right _ h)), by decide, List.mem_of_getElem? (i := 4) rfl, rfl⟩
theorem fl_X3_recover_110 : FL wsX3_recover RX3 110 3 11 := ⟨RX3, TX3, 21, rfl, (fun _ h => List.mem_cons_of_mem _ (List.mem_append_right _ h)), by decide, List.mem_of_getElem? (i := 5) rfl, rfl⟩
theorem fl_X3_recover_63 : FL wsX3_recover RX3 63 3 5 := ⟨RX3, TX3, 21, rfl, (fun _ h => List.mem_cons_of_mem _ (List.mem_append_right _ h)), by decide, List.mem_of_getElem? (i := 6) rfl, rfl⟩
theorem fl_X3_recover_113 : FL wsX3_recover RX3 113 3 12 := ⟨RX3, TX3, 21, rfl, (fun _ h => List.mem_cons_of_mem _ (List.mem_append_right _ h)), by decide, List.mem_of_getElem? (i := 7) rfl, rfl⟩
theorem fl_X3_recover_56 : FL wsX3_recover RX3 56 3 6 := ⟨RX3, TX3, 21, rfl, (fun _ h => List.mem_cons_of_mem _ (List.mem_append_right _ h)), by decide, List.mem_of_getElem? (i := 8) rfl, rfl⟩
theorem fl_X3_recover_7 : FL wsX3_recover RX3 7 3 3 := ⟨RX3, TX3, 21, rfl, (fun _ h => List.mem_cons_of_mem _ (List.mem_append_right _ h)), by decide, List.mem_of_getElem? (i := 9) rfl, rfl⟩
theorem fl_X3_recover_22 : FL wsX3_recover RX3 22 3 9 := ⟨RX3, TX3, 21, rfl, (fun _ h => List.mem_cons_of_mem _ (List.mem_append_right _ h)), by decide, List.mem_of_getElem? (i := 10) rfl, rfl⟩
theorem fl_X3_recover_13 : FL wsX3_recover RX3 13 3 4 := ⟨RX3, TX3, 21, rfl, (fun _ h => List.mem_cons_of_mem _ (List.mem_append_right _ h)), by decide, List.mem_of_getElem? (i := 11) rfl, rfl⟩
theorem fl_X3_recover_25 : FL wsX3_recover RX3 25 3 10 := ⟨RX3, TX3, 21, rfl, (fun _ h => List.mem_cons_of_mem _ (List.mem_append_right _ h)), by decide, List.mem_of_getElem? (i := 12) rfl, rfl⟩
theorem fl_X3_recover_16 : FL wsX3_recover RX3 16 3 7 := ⟨RX3, TX3, 21, rfl, (fun _ h => List.mem_cons_of_mem _ (List.mem_append_right _ h)), by decide, List.mem_of_getElem? (i := 13) rfl, rfl⟩
theorem fl_X3_recover_28 : FL wsX3_recover RX3 28 3 13 := ⟨RX3, TX3, 21, rfl, (fun _ h => List.mem_cons_of_mem _ (List.mem_append_right _ h)), by decide, List.mem_of_getElem? (i := 14) rfl, rfl⟩
theorem fl_X3_recover_19 : FL wsX3_recover RX3 19 3 8 := ⟨RX3, TX3, 21, rfl, (fun _ h => List.mem_cons_of_mem _ (List.mem_append_right _ h)), by decide, List.mem_of_getElem? (i := 15) rfl, rfl⟩
theorem fl_X3_recover_31 : FL wsX3_recover RX3 31 3 14 := ⟨RX3, TX3, 21, rfl, (fun _ h => List.mem_cons_of_mem _ (List.mem_append_right _ h)), by decide, List.mem_of_getElem? (i := 16) rfl, rfl⟩
set_option maxHeartbeats 4000000 in
set_option maxRecDepth 100000 in
theorem c_X3_recover (l : Launch) (w : Wd) (y sz : Nat) (F : Nat → Nat) (K : Nat → Nat → Int32) (N : Nat → Nat → Nat) (Z : Nat → Nat → Bool) (G0 : Pic) (hF0 : F 0 = 0) (hn : F 11 ≤ 3100) : Ct l w yX3_recover wsX3_recover ⟨0, 0, 0, 0⟩ [.ref (y)] (mset y F K N Z G0) sz (rt (some (.int (nI 0))) (mset y (rcF F) (rcK K (F 11)) (rcN N 256) Z G0) sz) := by
  refine Ct.of (cc := cX3_recover) (maxL := 2) (ret := (some .int)) (L := [some (.ref (y)), none]) (by decide +kernel) rfl (by simp [Value.category]) (by simp) rfl ?_
  intro p e s m args below meth c k hM
  have lpN : ∀ (n i : Nat) , i ≤ 256 → 256 - i < n → V p l e ⟨0, 0, 0, 0⟩ s m args below meth c w (mset y (rcF F) (rcK K (F 11)) (rcN N i) Z G0) sz 0 0 (mQ w below args s ⟨0, 0, 0, 0⟩ (rt (some (.int (nI 0))) (mset y (rcF F) (rcK K (F 11)) (rcN N 256) Z G0) sz)) 78 [some (.ref (y)), some (.int (nI (i)))] [] := by
    intro n
    induction n with
    | zero => intro i  h1 h2 ; omega
    | succ n ih =>
      intro i  h1 h2 
      refine V.iload_n k dX3_recover_78 rfl ?_
      refine V.sipush (v := nI 256) k dX3_recover_79 (by decide) ?_
      refine V.n_ge (tgt := 115) k dX3_recover_82 (by decide) (by omega) (by omega) (fun hc => ?_) (fun hc => ?_)
      · have hi : i = 256 := by omega
        subst hi
        refine V.iconst (v := nI 0) k dX3_recover_115 (by decide) ?_
        exact V.iret k hM dX3_recover_116 (Nat.le_of_ble_eq_true rfl) (Nat.le_of_ble_eq_true rfl) (rt_ok)
      · refine V.aload_n k dX3_recover_85 rfl ?_
        refine V.getf (v := .ref (y + 3)) k dX3_recover_86 fl_X3_recover_16 (ms_o y (rcF F) (rcK K (F 11)) (rcN N i) Z G0) rfl ?_
        refine V.iload_n k dX3_recover_89 rfl ?_
        refine V.aload_n k dX3_recover_90 rfl ?_
        refine V.getf (v := .ref (y + 7)) k dX3_recover_91 fl_X3_recover_28 (ms_o y (rcF F) (rcK K (F 11)) (rcN N i) Z G0) rfl ?_
        refine V.iload_n k dX3_recover_94 rfl ?_
        refine V.iald (v := (nI ((rcN N i) 2 (i)))) k dX3_recover_95 (ms_7 y (rcF F) (rcK K (F 11)) (rcN N i) Z G0) rfl (by omega) (by omega) (rfl) ?_
        refine V.iast (f' := upd (fun j => nI ((rcN N i) 0 j)) (i) (nI ((rcN N i) 2 (i)))) k dX3_recover_96 (ms_3 y (rcF F) (rcK K (F 11)) (rcN N i) Z G0) rfl (by omega) (by omega) rfl ?_
        refine V.pic (msw_3 y (rcF F) (rcK K (F 11)) (rcN N i) Z G0 (i) ((rcN N i) 2 (i))) ?_
        refine V.aload_n k dX3_recover_97 rfl ?_
        refine V.getf (v := .ref (y + 4)) k dX3_recover_98 fl_X3_recover_19 (ms_o y (rcF F) (rcK K (F 11)) (va_up (rcN N i) 0 (va_up ((rcN N i) 0) (i) ((rcN N i) 2 (i)))) Z G0) rfl ?_
        refine V.iload_n k dX3_recover_101 rfl ?_
        refine V.aload_n k dX3_recover_102 rfl ?_
        refine V.getf (v := .ref (y + 8)) k dX3_recover_103 fl_X3_recover_31 (ms_o y (rcF F) (rcK K (F 11)) (va_up (rcN N i) 0 (va_up ((rcN N i) 0) (i) ((rcN N i) 2 (i)))) Z G0) rfl ?_
        refine V.iload_n k dX3_recover_106 rfl ?_
        refine V.iald (v := (nI ((va_up (rcN N i) 0 (va_up ((rcN N i) 0) (i) ((rcN N i) 2 (i)))) 3 (i)))) k dX3_recover_107 (ms_8 y (rcF F) (rcK K (F 11)) (va_up (rcN N i) 0 (va_up ((rcN N i) 0) (i) ((rcN N i) 2 (i)))) Z G0) rfl (by omega) (by omega) (rfl) ?_
        refine V.iast (f' := upd (fun j => nI ((va_up (rcN N i) 0 (va_up ((rcN N i) 0) (i) ((rcN N i) 2 (i)))) 1 j)) (i) (nI ((va_up (rcN N i) 0 (va_up ((rcN N i) 0) (i) ((rcN N i) 2 (i)))) 3 (i)))) k dX3_recover_108 (ms_4 y (rcF F) (rcK K (F 11)) (va_up (rcN N i) 0 (va_up ((rcN N i) 0) (i) ((rcN N i) 2 (i)))) Z G0) rfl (by omega) (by omega) rfl ?_
        refine V.pic (msw_4 y (rcF F) (rcK K (F 11)) (va_up (rcN N i) 0 (va_up ((rcN N i) 0) (i) ((rcN N i) 2 (i)))) Z G0 (i) ((va_up (rcN N i) 0 (va_up ((rcN N i) 0) (i) ((rcN N i) 2 (i)))) 3 (i))) ?_
        refine V.pic (by rw [rcN_s]) ?_
        refine V.iinc (x := (nI (i))) (v := (nI (i + 1))) (L' := [some (.ref (y)), some (.int (nI (i + 1)))]) k dX3_recover_109 rfl (nI_inc1 _) rfl ?_
        refine V.goto (tgt := 78) k dX3_recover_112 (by decide) ?_
        exact ih (i + 1) (by omega) (by omega)
  have lpK : ∀ (n i : Nat) , i ≤ F 11 → F 11 - i < n → V p l e ⟨0, 0, 0, 0⟩ s m args below meth c w (mset y (rcF F) (rcK K i) N Z G0) sz 0 0 (mQ w below args s ⟨0, 0, 0, 0⟩ (rt (some (.int (nI 0))) (mset y (rcF F) (rcK K (F 11)) (rcN N 256) Z G0) sz)) 38 [some (.ref (y)), some (.int (nI (i)))] [] := by
    intro n
    induction n with
    | zero => intro i  h1 h2 ; omega
    | succ n ih =>
      intro i  h1 h2 
      refine V.iload_n k dX3_recover_38 rfl ?_
      refine V.aload_n k dX3_recover_39 rfl ?_
      refine V.getf (v := .int (nI (F 11))) k dX3_recover_40 fl_X3_recover_63 (ms_o y (rcF F) (rcK K i) N Z G0) rfl ?_
      refine V.n_ge (tgt := 76) k dX3_recover_43 (by decide) (by omega) (by omega) (fun hc => ?_) (fun hc => ?_)
      · have hi : i = F 11 := by omega
        subst hi
        refine V.iconst (v := nI 0) k dX3_recover_76 (by decide) ?_
        refine V.istore_n (L' := [some (.ref (y)), some (.int (nI (0)))]) k dX3_recover_77 (Nat.le_of_ble_eq_true rfl) rfl ?_
        refine V.pic (show _ = (mset y (rcF F) (rcK K (F 11)) (rcN N 0) Z G0) by rw [rcN_0]) ?_
        exact lpN 257 0 (by omega) (by omega)
      · refine V.aload_n k dX3_recover_46 rfl ?_
        refine V.getf (v := .ref (y + 1)) k dX3_recover_47 fl_X3_recover_7 (ms_o y (rcF F) (rcK K i) N Z G0) rfl ?_
        refine V.iload_n k dX3_recover_50 rfl ?_
        refine V.aload_n k dX3_recover_51 rfl ?_
        refine V.getf (v := .ref (y + 5)) k dX3_recover_52 fl_X3_recover_22 (ms_o y (rcF F) (rcK K i) N Z G0) rfl ?_
        refine V.iload_n k dX3_recover_55 rfl ?_
        refine V.iald (v := ((rcK K i) 2 (i))) k dX3_recover_56 (ms_5 y (rcF F) (rcK K i) N Z G0) rfl (by omega) (by omega) (rfl) ?_
        refine V.iast (f' := upd ((rcK K i) 0) (i) (((rcK K i) 2 (i)))) k dX3_recover_57 (ms_1 y (rcF F) (rcK K i) N Z G0) rfl (by omega) (by omega) rfl ?_
        refine V.pic (msw_1 y (rcF F) (rcK K i) N Z G0 (upd ((rcK K i) 0) (i) (((rcK K i) 2 (i))))) ?_
        refine V.aload_n k dX3_recover_58 rfl ?_
        refine V.getf (v := .ref (y + 2)) k dX3_recover_59 fl_X3_recover_13 (ms_o y (rcF F) (va_up (rcK K i) 0 (upd ((rcK K i) 0) (i) (((rcK K i) 2 (i))))) N Z G0) rfl ?_
        refine V.iload_n k dX3_recover_62 rfl ?_
        refine V.aload_n k dX3_recover_63 rfl ?_
        refine V.getf (v := .ref (y + 6)) k dX3_recover_64 fl_X3_recover_25 (ms_o y (rcF F) (va_up (rcK K i) 0 (upd ((rcK K i) 0) (i) (((rcK K i) 2 (i))))) N Z G0) rfl ?_
        refine V.iload_n k dX3_recover_67 rfl ?_
        refine V.iald (v := ((va_up (rcK K i) 0 (upd ((rcK K i) 0) (i) (((rcK K i) 2 (i))))) 3 (i))) k dX3_recover_68 (ms_6 y (rcF F) (va_up (rcK K i) 0 (upd ((rcK K i) 0) (i) (((rcK K i) 2 (i))))) N Z G0) rfl (by omega) (by omega) (rfl) ?_
        refine V.iast (f' := upd ((va_up (rcK K i) 0 (upd ((rcK K i) 0) (i) (((rcK K i) 2 (i))))) 1) (i) (((va_up (rcK K i) 0 (upd ((rcK K i) 0) (i) (((rcK K i) 2 (i))))) 3 (i)))) k dX3_recover_69 (ms_2 y (rcF F) (va_up (rcK K i) 0 (upd ((rcK K i) 0) (i) (((rcK K i) 2 (i))))) N Z G0) rfl (by omega) (by omega) rfl ?_
        refine V.pic (msw_2 y (rcF F) (va_up (rcK K i) 0 (upd ((rcK K i) 0) (i) (((rcK K i) 2 (i))))) N Z G0 (upd ((va_up (rcK K i) 0 (upd ((rcK K i) 0) (i) (((rcK K i) 2 (i))))) 1) (i) (((va_up (rcK K i) 0 (upd ((rcK K i) 0) (i) (((rcK K i) 2 (i))))) 3 (i))))) ?_
        refine V.pic (by rw [rcK_s]) ?_
        refine V.iinc (x := (nI (i))) (v := (nI (i + 1))) (L' := [some (.ref (y)), some (.int (nI (i + 1)))]) k dX3_recover_70 rfl (nI_inc1 _) rfl ?_
        refine V.goto (tgt := 38) k dX3_recover_73 (by decide) ?_
        exact ih (i + 1) (by omega) (by omega)
  refine V.aload_n k dX3_recover_0 rfl ?_
  refine V.iconst (v := nI 0) k dX3_recover_1 (by decide) ?_
  refine V.putf (fs' := mF y (va_up F 0 (0))) k dX3_recover_2 fl_X3_recover_48 ft_X3_0 (ms_o y F K N Z G0) (by first | rfl | decide) rfl (Nat.le_of_ble_eq_true rfl) (by simp [va_up]) ?_
  refine V.pic (msF y F K N Z G0 (va_up F 0 (0))) ?_
  refine V.pic (by rw [va_up_id hF0]) ?_
  refine V.aload_n k dX3_recover_5 rfl ?_
  refine V.iconst (v := nI 0) k dX3_recover_6 (by decide) ?_
  refine V.putf (fs' := mF y (va_up F 18 (0))) k dX3_recover_7 fl_X3_recover_87 ft_X3_18 (ms_o y F K N Z G0) (by first | rfl | decide) rfl (Nat.le_of_ble_eq_true rfl) (by simp [va_up]) ?_
  refine V.pic (msF y F K N Z G0 (va_up F 18 (0))) ?_
  refine V.aload_n k dX3_recover_10 rfl ?_
  refine V.iconst (v := nI 0) k dX3_recover_11 (by decide) ?_
  refine V.putf (fs' := mF y (va_up (va_up F 18 (0)) 19 (0))) k dX3_recover_12 fl_X3_recover_119 ft_X3_19 (ms_o y (va_up F 18 (0)) K N Z G0) (by first | rfl | decide) rfl (Nat.le_of_ble_eq_true rfl) (by simp [va_up]) ?_
  refine V.pic (msF y (va_up F 18 (0)) K N Z G0 (va_up (va_up F 18 (0)) 19 (0))) ?_
  refine V.aload_n k dX3_recover_15 rfl ?_
  refine V.iconst (v := nI 0) k dX3_recover_16 (by decide) ?_
  refine V.putf (fs' := mF y (va_up (va_up (va_up F 18 (0)) 19 (0)) 17 (0))) k dX3_recover_17 fl_X3_recover_99 ft_X3_17 (ms_o y (va_up (va_up F 18 (0)) 19 (0)) K N Z G0) (by first | rfl | decide) rfl (Nat.le_of_ble_eq_true rfl) (by simp [va_up]) ?_
  refine V.pic (msF y (va_up (va_up F 18 (0)) 19 (0)) K N Z G0 (va_up (va_up (va_up F 18 (0)) 19 (0)) 17 (0))) ?_
  refine V.aload_n k dX3_recover_20 rfl ?_
  refine V.aload_n k dX3_recover_21 rfl ?_
  refine V.getf (v := .int (nI (F 11))) k dX3_recover_22 fl_X3_recover_110 (ms_o y (va_up (va_up (va_up F 18 (0)) 19 (0)) 17 (0)) K N Z G0) rfl ?_
  refine V.putf (fs' := mF y (va_up (va_up (va_up (va_up F 18 (0)) 19 (0)) 17 (0)) 5 (F 11))) k dX3_recover_25 fl_X3_recover_63 ft_X3_5 (ms_o y (va_up (va_up (va_up F 18 (0)) 19 (0)) 17 (0)) K N Z G0) (by first | rfl | decide) rfl (Nat.le_of_ble_eq_true rfl) (by simp [va_up]) ?_
  refine V.pic (msF y (va_up (va_up (va_up F 18 (0)) 19 (0)) 17 (0)) K N Z G0 (va_up (va_up (va_up (va_up F 18 (0)) 19 (0)) 17 (0)) 5 (F 11))) ?_
  refine V.aload_n k dX3_recover_28 rfl ?_
  refine V.aload_n k dX3_recover_29 rfl ?_
  refine V.getf (v := .int (nI (F 12))) k dX3_recover_30 fl_X3_recover_113 (ms_o y (va_up (va_up (va_up (va_up F 18 (0)) 19 (0)) 17 (0)) 5 (F 11)) K N Z G0) rfl ?_
  refine V.putf (fs' := mF y (va_up (va_up (va_up (va_up (va_up F 18 (0)) 19 (0)) 17 (0)) 5 (F 11)) 6 (F 12))) k dX3_recover_33 fl_X3_recover_56 ft_X3_6 (ms_o y (va_up (va_up (va_up (va_up F 18 (0)) 19 (0)) 17 (0)) 5 (F 11)) K N Z G0) (by first | rfl | decide) rfl (Nat.le_of_ble_eq_true rfl) (by simp [va_up]) ?_
  refine V.pic (msF y (va_up (va_up (va_up (va_up F 18 (0)) 19 (0)) 17 (0)) 5 (F 11)) K N Z G0 (va_up (va_up (va_up (va_up (va_up F 18 (0)) 19 (0)) 17 (0)) 5 (F 11)) 6 (F 12))) ?_
  refine V.pic (show _ = (mset y (rcF F) (rcK K 0) N Z G0) by rw [rcK_0]; rfl) ?_
  refine V.iconst (v := nI 0) k dX3_recover_36 (by decide) ?_
  refine V.istore_n (L' := [some (.ref (y)), some (.int (nI (0)))]) k dX3_recover_37 (Nat.le_of_ble_eq_true rfl) rfl ?_
  exact lpK (F 11 + 1) 0 (by omega) (by omega)
def bl8 (b : Int32) : Nat := if b < nI 8 then 8 else if nI 200 < b then 200 else tn b
def md8 (d : Int32) : Nat := if d < 0 then 0 else if nI 8 < d then 8 else tn d
def inF (b d : Int32) : Nat → Nat := fun j => if j = 1 then bl8 b else if j = 2 then md8 d else 0
def inN : Nat → Nat → Nat := fun i j => if (i = 1 ∨ i = 3) ∧ j = 0 then 2 else 0
def inZ : Nat → Nat → Bool := fun i j => decide (i = 0 ∧ (j = 2 ∨ j = 3))
theorem fl_X3_init_7 : FL wsX3_init RX3 7 3 3 := ⟨RX3, TX3, 21, rfl, (fun _ h => List.mem_cons_of_mem _ (List.mem_append_right _ h)), by decide, List.mem_of_getElem? (i := 5) rfl, rfl⟩
theorem fl_X3_init_13 : FL wsX3_init RX3 13 3 4 := ⟨RX3, TX3, 21, rfl, (fun _ h => List.mem_cons_of_mem _ (List.mem_append_right _ h)), by decide, List.mem_of_getElem? (i := 6) rfl, rfl⟩
theorem fl_X3_init_16 : FL wsX3_init RX3 16 3 7 := ⟨RX3, TX3, 21, rfl, (fun _ h => List.mem_cons_of_mem _ (List.mem_append_right _ h)), by decide, List.mem_of_getElem? (i := 7) rfl, rfl⟩
theorem fl_X3_init_19 : FL wsX3_init RX3 19 3 8 := ⟨RX3, TX3, 21, rfl, (fun _ h => List.mem_cons_of_mem _ (List.mem_append_right _ h)), by decide, List.mem_of_getElem? (i := 8) rfl, rfl⟩
theorem fl_X3_init_22 : FL wsX3_init RX3 22 3 9 := ⟨RX3, TX3, 21, rfl, (fun _ h => List.mem_cons_of_mem _ (List.mem_append_right _ h)), by decide, List.mem_of_getElem? (i := 9) rfl, rfl⟩
theorem fl_X3_init_25 : FL wsX3_init RX3 25 3 10 := ⟨RX3, TX3, 21, rfl, (fun _ h => List.mem_cons_of_mem _ (List.mem_append_right _ h)), by decide, List.mem_of_getElem? (i := 10) rfl, rfl⟩
theorem fl_X3_init_28 : FL wsX3_init RX3 28 3 13 := ⟨RX3, TX3, 21, rfl, (fun _ h => List.mem_cons_of_mem _ (List.mem_append_right _ h)), by decide, List.mem_of_getElem? (i := 11) rfl, rfl⟩
theorem fl_X3_init_31 : FL wsX3_init RX3 31 3 14 := ⟨RX3, TX3, 21, rfl, (fun _ h => List.mem_cons_of_mem _ (List.mem_append_right _ h)), by decide, List.mem_of_getElem? (i := 12) rfl, rfl⟩
theorem fl_X3_init_34 : FL wsX3_init RX3 34 3 15 := ⟨RX3, TX3, 21, rfl, (fun _ h => List.mem_cons_of_mem _ (List.mem_append_right _ h)), by decide, List.mem_of_getElem? (i := 14) rfl, rfl⟩
theorem fl_X3_init_38 : FL wsX3_init RX3 38 3 16 := ⟨RX3, TX3, 21, rfl, (fun _ h => List.mem_cons_of_mem _ (List.mem_append_right _ h)), by decide, List.mem_of_getElem? (i := 15) rfl, rfl⟩
theorem fl_X3_init_41 : FL wsX3_init RX3 41 3 1 := ⟨RX3, TX3, 21, rfl, (fun _ h => List.mem_cons_of_mem _ (List.mem_append_right _ h)), by decide, List.mem_of_getElem? (i := 16) rfl, rfl⟩
theorem fl_X3_init_45 : FL wsX3_init RX3 45 3 2 := ⟨RX3, TX3, 21, rfl, (fun _ h => List.mem_cons_of_mem _ (List.mem_append_right _ h)), by decide, List.mem_of_getElem? (i := 17) rfl, rfl⟩
set_option maxHeartbeats 4000000 in
set_option maxRecDepth 100000 in
theorem c_X3_init (l : Launch) (w : Wd) (y sz : Nat) (G : Pic) (b0 d0 : Int32) (hsz : sz = y + 1) (hG : G y = some (gO 3 [.int (nI 0), .int (nI 0), .int (nI 0), .null, .null, .int (nI 0), .int (nI 0), .null, .null, .null, .null, .int (nI 0), .int (nI 0), .null, .null, .null, .null, .int (nI 0), .int (nI 0), .int (nI 0), .int (nI 0)])) : Ct l w yX3_init wsX3_init ⟨1, 10, 13824, 16⟩ [.ref (y), .int (b0), .int (d0)] G sz (rt none (mset y (inF b0 d0) (fun _ _ => 0) inN inZ G) (y + 11)) := by
  refine Ct.of (cc := cX3_init) (maxL := 3) (ret := none) (L := [some (.ref (y)), some (.int (b0)), some (.int (d0))]) (by decide +kernel) rfl (by simp [Value.category]) (by simp) rfl ?_
  intro p e s m args below meth c k hM
  subst hsz
  refine V.aload_n k dX3_init_0 rfl ?_
  refine V.objInit k dX3_init_1 (List.mem_of_getElem? (i := 1) rfl) (List.mem_of_getElem? (i := 2) rfl) (List.mem_of_getElem? (i := 3) rfl) rfl (Nat.le_of_ble_eq_true rfl) (Nat.le_of_ble_eq_true rfl) ?_
  refine V.aload_n k dX3_init_4 rfl ?_
  refine V.sipush (v := nI 3100) k dX3_init_5 (by decide) ?_
  refine V.newI (n := 3100) k dX3_init_8 rfl (List.mem_of_getElem? (i := 4) rfl) (Nat.le_of_ble_eq_true rfl) (Nat.le_of_ble_eq_true rfl) (Nat.le_of_ble_eq_true rfl) ?_
  refine V.putF (C0 := RX3) (fs' := [.int (nI 0), .int (nI 0), .int (nI 0), .ref (y + 1), .null, .int (nI 0), .int (nI 0), .null, .null, .null, .null, .int (nI 0), .int (nI 0), .null, .null, .null, .null, .int (nI 0), .int (nI 0), .int (nI 0), .int (nI 0)]) k dX3_init_10 fl_X3_init_7 ft_X3_3 rfl hM.2.2 ((gup_ne _ _ (by omega)).trans (hG)) (by first | rfl | decide) rfl (Nat.le_of_ble_eq_true rfl) rfl ?_
  refine V.aload_n k dX3_init_13 rfl ?_
  refine V.sipush (v := nI 3100) k dX3_init_14 (by decide) ?_
  refine V.newI (n := 3100) k dX3_init_17 rfl (List.mem_of_getElem? (i := 4) rfl) (Nat.le_of_ble_eq_true rfl) (Nat.le_of_ble_eq_true rfl) (Nat.le_of_ble_eq_true rfl) ?_
  refine V.putF (C0 := RX3) (fs' := [.int (nI 0), .int (nI 0), .int (nI 0), .ref (y + 1), .ref (y + 2), .int (nI 0), .int (nI 0), .null, .null, .null, .null, .int (nI 0), .int (nI 0), .null, .null, .null, .null, .int (nI 0), .int (nI 0), .int (nI 0), .int (nI 0)]) k dX3_init_19 fl_X3_init_13 ft_X3_4 rfl hM.2.2 ((gup_ne _ _ (by omega)).trans (gup_self _ _ _)) (by first | rfl | decide) rfl (Nat.le_of_ble_eq_true rfl) rfl ?_
  refine V.aload_n k dX3_init_22 rfl ?_
  refine V.sipush (v := nI 256) k dX3_init_23 (by decide) ?_
  refine V.newI (n := 256) k dX3_init_26 rfl (List.mem_of_getElem? (i := 4) rfl) (Nat.le_of_ble_eq_true rfl) (Nat.le_of_ble_eq_true rfl) (Nat.le_of_ble_eq_true rfl) ?_
  refine V.putF (C0 := RX3) (fs' := [.int (nI 0), .int (nI 0), .int (nI 0), .ref (y + 1), .ref (y + 2), .int (nI 0), .int (nI 0), .ref (y + 3), .null, .null, .null, .int (nI 0), .int (nI 0), .null, .null, .null, .null, .int (nI 0), .int (nI 0), .int (nI 0), .int (nI 0)]) k dX3_init_28 fl_X3_init_16 ft_X3_7 rfl hM.2.2 ((gup_ne _ _ (by omega)).trans (gup_self _ _ _)) (by first | rfl | decide) rfl (Nat.le_of_ble_eq_true rfl) rfl ?_
  refine V.aload_n k dX3_init_31 rfl ?_
  refine V.sipush (v := nI 256) k dX3_init_32 (by decide) ?_
  refine V.newI (n := 256) k dX3_init_35 rfl (List.mem_of_getElem? (i := 4) rfl) (Nat.le_of_ble_eq_true rfl) (Nat.le_of_ble_eq_true rfl) (Nat.le_of_ble_eq_true rfl) ?_
  refine V.putF (C0 := RX3) (fs' := [.int (nI 0), .int (nI 0), .int (nI 0), .ref (y + 1), .ref (y + 2), .int (nI 0), .int (nI 0), .ref (y + 3), .ref (y + 4), .null, .null, .int (nI 0), .int (nI 0), .null, .null, .null, .null, .int (nI 0), .int (nI 0), .int (nI 0), .int (nI 0)]) k dX3_init_37 fl_X3_init_19 ft_X3_8 rfl hM.2.2 ((gup_ne _ _ (by omega)).trans (gup_self _ _ _)) (by first | rfl | decide) rfl (Nat.le_of_ble_eq_true rfl) rfl ?_
  refine V.aload_n k dX3_init_40 rfl ?_
  refine V.sipush (v := nI 3100) k dX3_init_41 (by decide) ?_
  refine V.newI (n := 3100) k dX3_init_44 rfl (List.mem_of_getElem? (i := 4) rfl) (Nat.le_of_ble_eq_true rfl) (Nat.le_of_ble_eq_true rfl) (Nat.le_of_ble_eq_true rfl) ?_
  refine V.putF (C0 := RX3) (fs' := [.int (nI 0), .int (nI 0), .int (nI 0), .ref (y + 1), .ref (y + 2), .int (nI 0), .int (nI 0), .ref (y + 3), .ref (y + 4), .ref (y + 5), .null, .int (nI 0), .int (nI 0), .null, .null, .null, .null, .int (nI 0), .int (nI 0), .int (nI 0), .int (nI 0)]) k dX3_init_46 fl_X3_init_22 ft_X3_9 rfl hM.2.2 ((gup_ne _ _ (by omega)).trans (gup_self _ _ _)) (by first | rfl | decide) rfl (Nat.le_of_ble_eq_true rfl) rfl ?_
  refine V.aload_n k dX3_init_49 rfl ?_
  refine V.sipush (v := nI 3100) k dX3_init_50 (by decide) ?_
  refine V.newI (n := 3100) k dX3_init_53 rfl (List.mem_of_getElem? (i := 4) rfl) (Nat.le_of_ble_eq_true rfl) (Nat.le_of_ble_eq_true rfl) (Nat.le_of_ble_eq_true rfl) ?_
  refine V.putF (C0 := RX3) (fs' := [.int (nI 0), .int (nI 0), .int (nI 0), .ref (y + 1), .ref (y + 2), .int (nI 0), .int (nI 0), .ref (y + 3), .ref (y + 4), .ref (y + 5), .ref (y + 6), .int (nI 0), .int (nI 0), .null, .null, .null, .null, .int (nI 0), .int (nI 0), .int (nI 0), .int (nI 0)]) k dX3_init_55 fl_X3_init_25 ft_X3_10 rfl hM.2.2 ((gup_ne _ _ (by omega)).trans (gup_self _ _ _)) (by first | rfl | decide) rfl (Nat.le_of_ble_eq_true rfl) rfl ?_
  refine V.aload_n k dX3_init_58 rfl ?_
  refine V.sipush (v := nI 256) k dX3_init_59 (by decide) ?_
  refine V.newI (n := 256) k dX3_init_62 rfl (List.mem_of_getElem? (i := 4) rfl) (Nat.le_of_ble_eq_true rfl) (Nat.le_of_ble_eq_true rfl) (Nat.le_of_ble_eq_true rfl) ?_
  refine V.putF (C0 := RX3) (fs' := [.int (nI 0), .int (nI 0), .int (nI 0), .ref (y + 1), .ref (y + 2), .int (nI 0), .int (nI 0), .ref (y + 3), .ref (y + 4), .ref (y + 5), .ref (y + 6), .int (nI 0), .int (nI 0), .ref (y + 7), .null, .null, .null, .int (nI 0), .int (nI 0), .int (nI 0), .int (nI 0)]) k dX3_init_64 fl_X3_init_28 ft_X3_13 rfl hM.2.2 ((gup_ne _ _ (by omega)).trans (gup_self _ _ _)) (by first | rfl | decide) rfl (Nat.le_of_ble_eq_true rfl) rfl ?_
  refine V.aload_n k dX3_init_67 rfl ?_
  refine V.sipush (v := nI 256) k dX3_init_68 (by decide) ?_
  refine V.newI (n := 256) k dX3_init_71 rfl (List.mem_of_getElem? (i := 4) rfl) (Nat.le_of_ble_eq_true rfl) (Nat.le_of_ble_eq_true rfl) (Nat.le_of_ble_eq_true rfl) ?_
  refine V.putF (C0 := RX3) (fs' := [.int (nI 0), .int (nI 0), .int (nI 0), .ref (y + 1), .ref (y + 2), .int (nI 0), .int (nI 0), .ref (y + 3), .ref (y + 4), .ref (y + 5), .ref (y + 6), .int (nI 0), .int (nI 0), .ref (y + 7), .ref (y + 8), .null, .null, .int (nI 0), .int (nI 0), .int (nI 0), .int (nI 0)]) k dX3_init_73 fl_X3_init_31 ft_X3_14 rfl hM.2.2 ((gup_ne _ _ (by omega)).trans (gup_self _ _ _)) (by first | rfl | decide) rfl (Nat.le_of_ble_eq_true rfl) rfl ?_
  refine V.aload_n k dX3_init_76 rfl ?_
  refine V.sipush (v := nI 200) k dX3_init_77 (by decide) ?_
  refine V.newZ (n := 200) k dX3_init_80 rfl (List.mem_of_getElem? (i := 13) rfl) (Nat.le_of_ble_eq_true rfl) (Nat.le_of_ble_eq_true rfl) (Nat.le_of_ble_eq_true rfl) ?_
  refine V.putF (C0 := RX3) (fs' := [.int (nI 0), .int (nI 0), .int (nI 0), .ref (y + 1), .ref (y + 2), .int (nI 0), .int (nI 0), .ref (y + 3), .ref (y + 4), .ref (y + 5), .ref (y + 6), .int (nI 0), .int (nI 0), .ref (y + 7), .ref (y + 8), .ref (y + 9), .null, .int (nI 0), .int (nI 0), .int (nI 0), .int (nI 0)]) k dX3_init_82 fl_X3_init_34 ft_X3_15 rfl hM.2.2 ((gup_ne _ _ (by omega)).trans (gup_self _ _ _)) (by first | rfl | decide) rfl (Nat.le_of_ble_eq_true rfl) rfl ?_
  refine V.aload_n k dX3_init_85 rfl ?_
  refine V.sipush (v := nI 200) k dX3_init_86 (by decide) ?_
  refine V.newZ (n := 200) k dX3_init_89 rfl (List.mem_of_getElem? (i := 13) rfl) (Nat.le_of_ble_eq_true rfl) (Nat.le_of_ble_eq_true rfl) (Nat.le_of_ble_eq_true rfl) ?_
  refine V.putF (C0 := RX3) (fs' := [.int (nI 0), .int (nI 0), .int (nI 0), .ref (y + 1), .ref (y + 2), .int (nI 0), .int (nI 0), .ref (y + 3), .ref (y + 4), .ref (y + 5), .ref (y + 6), .int (nI 0), .int (nI 0), .ref (y + 7), .ref (y + 8), .ref (y + 9), .ref (y + 10), .int (nI 0), .int (nI 0), .int (nI 0), .int (nI 0)]) k dX3_init_91 fl_X3_init_38 ft_X3_16 rfl hM.2.2 ((gup_ne _ _ (by omega)).trans (gup_self _ _ _)) (by first | rfl | decide) rfl (Nat.le_of_ble_eq_true rfl) rfl ?_
  refine V.aload_n k dX3_init_94 rfl ?_
  refine V.iload_n k dX3_init_95 rfl ?_
  refine V.bipush (v := nI 8) k dX3_init_96 (by decide) ?_
  have rest : V p l e ⟨1, 10, 13824, 16⟩ s m args below meth c w (gup (gup (gup (gup (gup (gup (gup (gup (gup (gup (gup (gup (gup (gup (gup (gup (gup (gup (gup (gup G (y + 1) (gI 3100 (fun _ => 0))) (y) (gO 3 [.int (nI 0), .int (nI 0), .int (nI 0), .ref (y + 1), .null, .int (nI 0), .int (nI 0), .null, .null, .null, .null, .int (nI 0), .int (nI 0), .null, .null, .null, .null, .int (nI 0), .int (nI 0), .int (nI 0), .int (nI 0)])) (y + 2) (gI 3100 (fun _ => 0))) (y) (gO 3 [.int (nI 0), .int (nI 0), .int (nI 0), .ref (y + 1), .ref (y + 2), .int (nI 0), .int (nI 0), .null, .null, .null, .null, .int (nI 0), .int (nI 0), .null, .null, .null, .null, .int (nI 0), .int (nI 0), .int (nI 0), .int (nI 0)])) (y + 3) (gI 256 (fun _ => 0))) (y) (gO 3 [.int (nI 0), .int (nI 0), .int (nI 0), .ref (y + 1), .ref (y + 2), .int (nI 0), .int (nI 0), .ref (y + 3), .null, .null, .null, .int (nI 0), .int (nI 0), .null, .null, .null, .null, .int (nI 0), .int (nI 0), .int (nI 0), .int (nI 0)])) (y + 4) (gI 256 (fun _ => 0))) (y) (gO 3 [.int (nI 0), .int (nI 0), .int (nI 0), .ref (y + 1), .ref (y + 2), .int (nI 0), .int (nI 0), .ref (y + 3), .ref (y + 4), .null, .null, .int (nI 0), .int (nI 0), .null, .null, .null, .null, .int (nI 0), .int (nI 0), .int (nI 0), .int (nI 0)])) (y + 5) (gI 3100 (fun _ => 0))) (y) (gO 3 [.int (nI 0), .int (nI 0), .int (nI 0), .ref (y + 1), .ref (y + 2), .int (nI 0), .int (nI 0), .ref (y + 3), .ref (y + 4), .ref (y + 5), .null, .int (nI 0), .int (nI 0), .null, .null, .null, .null, .int (nI 0), .int (nI 0), .int (nI 0), .int (nI 0)])) (y + 6) (gI 3100 (fun _ => 0))) (y) (gO 3 [.int (nI 0), .int (nI 0), .int (nI 0), .ref (y + 1), .ref (y + 2), .int (nI 0), .int (nI 0), .ref (y + 3), .ref (y + 4), .ref (y + 5), .ref (y + 6), .int (nI 0), .int (nI 0), .null, .null, .null, .null, .int (nI 0), .int (nI 0), .int (nI 0), .int (nI 0)])) (y + 7) (gI 256 (fun _ => 0))) (y) (gO 3 [.int (nI 0), .int (nI 0), .int (nI 0), .ref (y + 1), .ref (y + 2), .int (nI 0), .int (nI 0), .ref (y + 3), .ref (y + 4), .ref (y + 5), .ref (y + 6), .int (nI 0), .int (nI 0), .ref (y + 7), .null, .null, .null, .int (nI 0), .int (nI 0), .int (nI 0), .int (nI 0)])) (y + 8) (gI 256 (fun _ => 0))) (y) (gO 3 [.int (nI 0), .int (nI 0), .int (nI 0), .ref (y + 1), .ref (y + 2), .int (nI 0), .int (nI 0), .ref (y + 3), .ref (y + 4), .ref (y + 5), .ref (y + 6), .int (nI 0), .int (nI 0), .ref (y + 7), .ref (y + 8), .null, .null, .int (nI 0), .int (nI 0), .int (nI 0), .int (nI 0)])) (y + 9) (gZ 200 (fun _ => 0))) (y) (gO 3 [.int (nI 0), .int (nI 0), .int (nI 0), .ref (y + 1), .ref (y + 2), .int (nI 0), .int (nI 0), .ref (y + 3), .ref (y + 4), .ref (y + 5), .ref (y + 6), .int (nI 0), .int (nI 0), .ref (y + 7), .ref (y + 8), .ref (y + 9), .null, .int (nI 0), .int (nI 0), .int (nI 0), .int (nI 0)])) (y + 10) (gZ 200 (fun _ => 0))) (y) (gO 3 [.int (nI 0), .int (nI 0), .int (nI 0), .ref (y + 1), .ref (y + 2), .int (nI 0), .int (nI 0), .ref (y + 3), .ref (y + 4), .ref (y + 5), .ref (y + 6), .int (nI 0), .int (nI 0), .ref (y + 7), .ref (y + 8), .ref (y + 9), .ref (y + 10), .int (nI 0), .int (nI 0), .int (nI 0), .int (nI 0)])) (((((((((((y + 1) + 1) + 1) + 1) + 1) + 1) + 1) + 1) + 1) + 1) + 1) ((((((((((0 + 1) + 1) + 1) + 1) + 1) + 1) + 1) + 1) + 1) + 1) ((((((((((0 + 3100) + 3100) + 256) + 256) + 3100) + 3100) + 256) + 256) + 200) + 200) (mQ w below args s ⟨1, 10, 13824, 16⟩ (rt none (mset y (inF b0 d0) (fun _ _ => 0) inN inZ G) (y + 11))) 120 [some (.ref (y)), some (.int (b0)), some (.int (d0))] [.int (nI (bl8 b0)), .ref (y)] := by
    refine V.putF (C0 := RX3) (fs' := [.int (nI 0), .int (nI (bl8 b0)), .int (nI 0), .ref (y + 1), .ref (y + 2), .int (nI 0), .int (nI 0), .ref (y + 3), .ref (y + 4), .ref (y + 5), .ref (y + 6), .int (nI 0), .int (nI 0), .ref (y + 7), .ref (y + 8), .ref (y + 9), .ref (y + 10), .int (nI 0), .int (nI 0), .int (nI 0), .int (nI 0)]) k dX3_init_120 fl_X3_init_41 ft_X3_1 rfl hM.2.2 (gup_self _ _ _) (by first | rfl | decide) rfl (Nat.le_of_ble_eq_true rfl) rfl ?_
    have rest2 : V p l e ⟨1, 10, 13824, 16⟩ s m args below meth c w (gup (gup (gup (gup (gup (gup (gup (gup (gup (gup (gup (gup (gup (gup (gup (gup (gup (gup (gup (gup (gup G (y + 1) (gI 3100 (fun _ => 0))) (y) (gO 3 [.int (nI 0), .int (nI 0), .int (nI 0), .ref (y + 1), .null, .int (nI 0), .int (nI 0), .null, .null, .null, .null, .int (nI 0), .int (nI 0), .null, .null, .null, .null, .int (nI 0), .int (nI 0), .int (nI 0), .int (nI 0)])) (y + 2) (gI 3100 (fun _ => 0))) (y) (gO 3 [.int (nI 0), .int (nI 0), .int (nI 0), .ref (y + 1), .ref (y + 2), .int (nI 0), .int (nI 0), .null, .null, .null, .null, .int (nI 0), .int (nI 0), .null, .null, .null, .null, .int (nI 0), .int (nI 0), .int (nI 0), .int (nI 0)])) (y + 3) (gI 256 (fun _ => 0))) (y) (gO 3 [.int (nI 0), .int (nI 0), .int (nI 0), .ref (y + 1), .ref (y + 2), .int (nI 0), .int (nI 0), .ref (y + 3), .null, .null, .null, .int (nI 0), .int (nI 0), .null, .null, .null, .null, .int (nI 0), .int (nI 0), .int (nI 0), .int (nI 0)])) (y + 4) (gI 256 (fun _ => 0))) (y) (gO 3 [.int (nI 0), .int (nI 0), .int (nI 0), .ref (y + 1), .ref (y + 2), .int (nI 0), .int (nI 0), .ref (y + 3), .ref (y + 4), .null, .null, .int (nI 0), .int (nI 0), .null, .null, .null, .null, .int (nI 0), .int (nI 0), .int (nI 0), .int (nI 0)])) (y + 5) (gI 3100 (fun _ => 0))) (y) (gO 3 [.int (nI 0), .int (nI 0), .int (nI 0), .ref (y + 1), .ref (y + 2), .int (nI 0), .int (nI 0), .ref (y + 3), .ref (y + 4), .ref (y + 5), .null, .int (nI 0), .int (nI 0), .null, .null, .null, .null, .int (nI 0), .int (nI 0), .int (nI 0), .int (nI 0)])) (y + 6) (gI 3100 (fun _ => 0))) (y) (gO 3 [.int (nI 0), .int (nI 0), .int (nI 0), .ref (y + 1), .ref (y + 2), .int (nI 0), .int (nI 0), .ref (y + 3), .ref (y + 4), .ref (y + 5), .ref (y + 6), .int (nI 0), .int (nI 0), .null, .null, .null, .null, .int (nI 0), .int (nI 0), .int (nI 0), .int (nI 0)])) (y + 7) (gI 256 (fun _ => 0))) (y) (gO 3 [.int (nI 0), .int (nI 0), .int (nI 0), .ref (y + 1), .ref (y + 2), .int (nI 0), .int (nI 0), .ref (y + 3), .ref (y + 4), .ref (y + 5), .ref (y + 6), .int (nI 0), .int (nI 0), .ref (y + 7), .null, .null, .null, .int (nI 0), .int (nI 0), .int (nI 0), .int (nI 0)])) (y + 8) (gI 256 (fun _ => 0))) (y) (gO 3 [.int (nI 0), .int (nI 0), .int (nI 0), .ref (y + 1), .ref (y + 2), .int (nI 0), .int (nI 0), .ref (y + 3), .ref (y + 4), .ref (y + 5), .ref (y + 6), .int (nI 0), .int (nI 0), .ref (y + 7), .ref (y + 8), .null, .null, .int (nI 0), .int (nI 0), .int (nI 0), .int (nI 0)])) (y + 9) (gZ 200 (fun _ => 0))) (y) (gO 3 [.int (nI 0), .int (nI 0), .int (nI 0), .ref (y + 1), .ref (y + 2), .int (nI 0), .int (nI 0), .ref (y + 3), .ref (y + 4), .ref (y + 5), .ref (y + 6), .int (nI 0), .int (nI 0), .ref (y + 7), .ref (y + 8), .ref (y + 9), .null, .int (nI 0), .int (nI 0), .int (nI 0), .int (nI 0)])) (y + 10) (gZ 200 (fun _ => 0))) (y) (gO 3 [.int (nI 0), .int (nI 0), .int (nI 0), .ref (y + 1), .ref (y + 2), .int (nI 0), .int (nI 0), .ref (y + 3), .ref (y + 4), .ref (y + 5), .ref (y + 6), .int (nI 0), .int (nI 0), .ref (y + 7), .ref (y + 8), .ref (y + 9), .ref (y + 10), .int (nI 0), .int (nI 0), .int (nI 0), .int (nI 0)])) (y) (gO 3 [.int (nI 0), .int (nI (bl8 b0)), .int (nI 0), .ref (y + 1), .ref (y + 2), .int (nI 0), .int (nI 0), .ref (y + 3), .ref (y + 4), .ref (y + 5), .ref (y + 6), .int (nI 0), .int (nI 0), .ref (y + 7), .ref (y + 8), .ref (y + 9), .ref (y + 10), .int (nI 0), .int (nI 0), .int (nI 0), .int (nI 0)])) (((((((((((y + 1) + 1) + 1) + 1) + 1) + 1) + 1) + 1) + 1) + 1) + 1) ((((((((((0 + 1) + 1) + 1) + 1) + 1) + 1) + 1) + 1) + 1) + 1) ((((((((((0 + 3100) + 3100) + 256) + 256) + 3100) + 3100) + 256) + 256) + 200) + 200) (mQ w below args s ⟨1, 10, 13824, 16⟩ (rt none (mset y (inF b0 d0) (fun _ _ => 0) inN inZ G) (y + 11))) 144 [some (.ref (y)), some (.int (b0)), some (.int (d0))] [.int (nI (md8 d0)), .ref (y)] := by
      refine V.putF (C0 := RX3) (fs' := [.int (nI 0), .int (nI (bl8 b0)), .int (nI (md8 d0)), .ref (y + 1), .ref (y + 2), .int (nI 0), .int (nI 0), .ref (y + 3), .ref (y + 4), .ref (y + 5), .ref (y + 6), .int (nI 0), .int (nI 0), .ref (y + 7), .ref (y + 8), .ref (y + 9), .ref (y + 10), .int (nI 0), .int (nI 0), .int (nI 0), .int (nI 0)]) k dX3_init_144 fl_X3_init_45 ft_X3_2 rfl hM.2.2 (gup_self _ _ _) (by first | rfl | decide) rfl (Nat.le_of_ble_eq_true rfl) rfl ?_
      refine V.aload_n k dX3_init_147 rfl ?_
      refine V.getf (v := .ref (y + 4)) k dX3_init_148 fl_X3_init_19 (gup_self _ _ _) rfl ?_
      refine V.iconst (v := nI 0) k dX3_init_151 (by decide) ?_
      refine V.iconst (v := nI 2) k dX3_init_152 (by decide) ?_
      refine V.iast (f' := upd (fun _ => 0) 0 ((nI (2)))) k dX3_init_153 (show _ = some (gI 256 (fun _ => 0)) by simp [gup]) rfl (by omega) (by omega) rfl ?_
      refine V.aload_n k dX3_init_154 rfl ?_
      refine V.getf (v := .ref (y + 8)) k dX3_init_155 fl_X3_init_31 ((gup_ne _ _ (by omega)).trans (gup_self _ _ _)) rfl ?_
      refine V.iconst (v := nI 0) k dX3_init_158 (by decide) ?_
      refine V.iconst (v := nI 2) k dX3_init_159 (by decide) ?_
      refine V.iast (f' := upd (fun _ => 0) 0 ((nI (2)))) k dX3_init_160 (show _ = some (gI 256 (fun _ => 0)) by simp [gup]) rfl (by omega) (by omega) rfl ?_
      refine V.aload_n k dX3_init_161 rfl ?_
      refine V.getf (v := .ref (y + 9)) k dX3_init_162 fl_X3_init_34 ((gup_ne _ _ (by omega)).trans ((gup_ne _ _ (by omega)).trans (gup_self _ _ _))) rfl ?_
      refine V.iconst (v := nI 2) k dX3_init_165 (by decide) ?_
      refine V.iconst (v := nI 1) k dX3_init_166 (by decide) ?_
      refine V.zast (f' := upd (fun _ => 0) 2 ((nI (1)))) k dX3_init_167 (show _ = some (gZ 200 (fun _ => 0)) by simp [gup]) rfl (by omega) (by omega) rfl rfl ?_
      refine V.aload_n k dX3_init_168 rfl ?_
      refine V.getf (v := .ref (y + 9)) k dX3_init_169 fl_X3_init_34 ((gup_ne _ _ (by omega)).trans ((gup_ne _ _ (by omega)).trans ((gup_ne _ _ (by omega)).trans (gup_self _ _ _)))) rfl ?_
      refine V.iconst (v := nI 3) k dX3_init_172 (by decide) ?_
      refine V.iconst (v := nI 1) k dX3_init_173 (by decide) ?_
      refine V.zast (f' := upd (upd (fun _ => 0) 2 ((nI (1)))) 3 ((nI (1)))) k dX3_init_174 (show _ = some (gZ 200 (upd (fun _ => 0) 2 ((nI (1))))) by simp [gup]) rfl (by omega) (by omega) rfl rfl ?_
      refine V.pic (show _ = mset y (inF b0 d0) (fun _ _ => 0) inN inZ G from ?_) ?_
      · funext q
        by_cases hq : y ≤ q ∧ q ≤ y + 10
        · obtain ⟨a, rfl⟩ : ∃ a, q = y + a := ⟨q - y, by omega⟩
          have ha : a ≤ 10 := by omega
          rcases (show a = 0 ∨ a = 1 ∨ a = 2 ∨ a = 3 ∨ a = 4 ∨ a = 5 ∨ a = 6 ∨ a = 7 ∨ a = 8 ∨ a = 9 ∨ a = 10 by omega) with h | h | h | h | h | h | h | h | h | h | h <;> subst h
          all_goals simp [gup, mset, inF]
          all_goals (funext j; simp only [upd, inN, inZ, bI]; (try (by_cases hj : j = 0 <;> by_cases hj2 : j = 2 <;> by_cases hj3 : j = 3 <;> simp_all <;> (try rfl))))
          all_goals rfl
        · have h0 : ∀ i, i ≤ 10 → ¬ q = y + i := fun i hi e => hq ⟨by omega, by omega⟩
          have hy : ¬ q = y := fun e => hq ⟨by omega, by omega⟩
          simp [gup, mset, hy, h0 1 (by omega), h0 2 (by omega), h0 3 (by omega), h0 4 (by omega), h0 5 (by omega), h0 6 (by omega), h0 7 (by omega), h0 8 (by omega), h0 9 (by omega), h0 10 (by omega)]
      exact V.vret k hM dX3_init_175 (Nat.le_of_ble_eq_true rfl) (Nat.le_of_ble_eq_true rfl) (rt_ok)
    refine V.aload_n k dX3_init_123 rfl ?_
    refine V.iload_n k dX3_init_124 rfl ?_
    refine V.if_ge (tgt := 132) k dX3_init_125 (by decide) (fun h3 => ?_) (fun h3 => ?_)
    · refine V.iload_n k dX3_init_132 rfl ?_
      refine V.bipush (v := nI 8) k dX3_init_133 (by decide) ?_
      refine V.icmp_le (tgt := 143) k dX3_init_135 (by decide) (fun h4 => ?_) (fun h4 => ?_)
      · refine V.iload_n k dX3_init_143 rfl ?_
        refine V.stk (st' := [.int (nI (md8 d0)), .ref y]) (by rw [show md8 d0 = tn d0 by unfold md8; rw [if_neg (fun q => Int32.lt_irrefl (Int32.lt_of_lt_of_le q h3)), if_neg (fun q => Int32.lt_irrefl (Int32.lt_of_lt_of_le q h4))], nI_tn]) ?_
        exact rest2
      · refine V.bipush (v := nI 8) k dX3_init_138 (by decide) ?_
        refine V.goto (tgt := 144) k dX3_init_140 (by decide) ?_
        refine V.stk (st' := [.int (nI (md8 d0)), .ref y]) (by rw [show md8 d0 = 8 by unfold md8; rw [if_neg (fun q => Int32.lt_irrefl (Int32.lt_of_lt_of_le q h3)), if_pos (Int32.not_le.mp h4)]]) ?_
        exact rest2
    · refine V.iconst (v := nI 0) k dX3_init_128 (by decide) ?_
      refine V.goto (tgt := 144) k dX3_init_129 (by decide) ?_
      refine V.stk (st' := [.int (nI (md8 d0)), .ref y]) (by rw [show md8 d0 = 0 by unfold md8; rw [if_pos (Int32.not_le.mp h3)]]) ?_
      exact rest2
  refine V.icmp_ge (tgt := 106) k dX3_init_98 (by decide) (fun h1 => ?_) (fun h1 => ?_)
  · refine V.iload_n k dX3_init_106 rfl ?_
    refine V.sipush (v := nI 200) k dX3_init_107 (by decide) ?_
    refine V.icmp_le (tgt := 119) k dX3_init_110 (by decide) (fun h2 => ?_) (fun h2 => ?_)
    · refine V.iload_n k dX3_init_119 rfl ?_
      refine V.stk (st' := [.int (nI (bl8 b0)), .ref y]) (by rw [show bl8 b0 = tn b0 by unfold bl8; rw [if_neg (fun q => Int32.lt_irrefl (Int32.lt_of_lt_of_le q h1)), if_neg (fun q => Int32.lt_irrefl (Int32.lt_of_lt_of_le q h2))], nI_tn]) ?_
      exact rest
    · refine V.sipush (v := nI 200) k dX3_init_113 (by decide) ?_
      refine V.goto (tgt := 120) k dX3_init_116 (by decide) ?_
      refine V.stk (st' := [.int (nI (bl8 b0)), .ref y]) (by rw [show bl8 b0 = 200 by unfold bl8; rw [if_neg (fun q => Int32.lt_irrefl (Int32.lt_of_lt_of_le q h1)), if_pos (Int32.not_le.mp h2)]]) ?_
      exact rest
  · refine V.bipush (v := nI 8) k dX3_init_101 (by decide) ?_
    refine V.goto (tgt := 120) k dX3_init_103 (by decide) ?_
    refine V.stk (st' := [.int (nI (bl8 b0)), .ref y]) (by rw [show bl8 b0 = 8 by unfold bl8; rw [if_pos (Int32.not_le.mp h1)]]) ?_
    exact rest
