theorem bI_nar (b : Bool) : narrow .boolean (.int (bI b)) = .int (bI b) := by cases b <;> rfl
def fnd (K : Nat → Int32) (k : Int32) : Nat → Nat → Nat
  | 0, i => i
  | n + 1, i => if K i = k then i else fnd K k n (i + 1)
set_option maxHeartbeats 4000000 in
set_option maxRecDepth 100000 in
theorem c_X3_mixing (l : Launch) (w : Wd) (G : Pic) (sz : Nat) (k0 : Int32) : Ct l w yX3_mixing wsX3_mixing ⟨0, 0, 0, 0⟩ [.int (k0)] G sz (rt (some (.int (mx k0))) G sz) := by
  refine Ct.of (cc := cX3_mixing) (maxL := 2) (ret := (some .int)) (L := [some (.int (k0)), none]) (by decide +kernel) rfl (by simp [Value.category]) (by simp) rfl ?_
  intro p e s m args below meth c k hM
  refine V.iload_n k dX3_mixing_0 rfl ?_
  refine V.ldc (v := (-1640531535)) k dX3_mixing_1 (List.mem_of_getElem? (i := 1) rfl) ?_
  refine V.imul (v := (((k0)) * (((-1640531535))))) k dX3_mixing_3 (rfl) ?_
  refine V.istore_n (L' := [some (.int (k0)), some (.int (((k0)) * (((-1640531535)))))]) k dX3_mixing_4 (Nat.le_of_ble_eq_true rfl) rfl ?_
  refine V.iload_n k dX3_mixing_5 rfl ?_
  refine V.iload_n k dX3_mixing_6 rfl ?_
  refine V.bipush (v := nI 15) k dX3_mixing_7 (by decide) ?_
  refine V.iushr (v := ((((k0) * ((-1640531535))).toUInt32 >>> ((nI (15)).toUInt32 &&& Int32.toUInt32 31)).toInt32)) k dX3_mixing_9 (rfl) ?_
  refine V.ixor (v := (((((k0)) * (((-1640531535))))) ^^^ (((((k0) * ((-1640531535))).toUInt32 >>> ((nI (15)).toUInt32 &&& Int32.toUInt32 31)).toInt32)))) k dX3_mixing_10 (rfl) ?_
  exact V.iret k hM dX3_mixing_11 (Nat.le_of_ble_eq_true rfl) (Nat.le_of_ble_eq_true rfl) (rt_ok)
set_option maxHeartbeats 4000000 in
set_option maxRecDepth 100000 in
theorem c_X3_low (l : Launch) (w : Wd) (G : Pic) (sz : Nat) (v0 : Int32) (b : Nat) (hb : b ≤ 30) : Ct l w yX3_low wsX3_low ⟨0, 0, 0, 0⟩ [.int (v0), .int (nI (b))] G sz (rt (some (.int (nI (tn v0 % 2 ^ b)))) G sz) := by
  refine Ct.of (cc := cX3_low) (maxL := 2) (ret := (some .int)) (L := [some (.int (v0)), some (.int (nI (b)))]) (by decide +kernel) rfl (by simp [Value.category]) (by simp) rfl ?_
  intro p e s m args below meth c k hM
  refine V.iload_n k dX3_low_0 rfl ?_
  refine V.iconst (v := nI 1) k dX3_low_1 (by decide) ?_
  refine V.iload_n k dX3_low_2 rfl ?_
  refine V.ishl (v := (nI (2 ^ (b)))) k dX3_low_3 (shl1 (by omega)) ?_
  refine V.iconst (v := nI 1) k dX3_low_4 (by decide) ?_
  refine V.isub (v := (nI (2 ^ (b) - 1))) k dX3_low_5 (nI_sub1) ?_
  refine V.iand (v := (nI (tn v0 % 2 ^ b))) k dX3_low_6 (andm v0 (by omega)) ?_
  exact V.iret k hM dX3_low_7 (Nat.le_of_ble_eq_true rfl) (Nat.le_of_ble_eq_true rfl) (rt_ok)
theorem fl_X3_entry_56 : FL wsX3_entry RX3 56 3 6 := ⟨RX3, TX3, 21, rfl, (fun _ h => List.mem_cons_of_mem _ (List.mem_append_right _ h)), by decide, List.mem_of_getElem? (i := 1) rfl, rfl⟩
set_option maxHeartbeats 4000000 in
set_option maxRecDepth 100000 in
theorem c_X3_entry (l : Launch) (w : Wd) (y sz : Nat) (F : Nat → Nat) (K : Nat → Nat → Int32) (N : Nat → Nat → Nat) (Z : Nat → Nat → Bool) (G0 : Pic) (k0 : Int32) (hd : F 6 ≤ 8) : Ct l w yX3_entry wsX3_entry ⟨1, 0, 0, 21⟩ [.ref (y), .int (k0)] (mset y F K N Z G0) sz (rt (some (.int (nI (hx k0 % 2 ^ F 6)))) (mset y F K N Z G0) sz) := by
  refine Ct.of (cc := cX3_entry) (maxL := 2) (ret := (some .int)) (L := [some (.ref (y)), some (.int (k0))]) (by decide +kernel) rfl (by simp [Value.category]) (by simp) rfl ?_
  intro p e s m args below meth c k hM
  refine V.iload_n k dX3_entry_0 rfl ?_
  refine V.cS (As := [.int (k0)]) (st1 := [.int (mx k0)]) k dX3_entry_1 (c_X3_mixing l w _ sz k0) gX3_entry_X3_mixing rfl hd_X3_mixing ⟨⟨Nat.le_of_ble_eq_true rfl, Nat.le_of_ble_eq_true rfl⟩, Nat.le_of_ble_eq_true rfl, Nat.le_of_ble_eq_true rfl⟩ rfl rfl rfl (Nat.le_of_ble_eq_true rfl) rfl ?_
  refine V.aload_n k dX3_entry_4 rfl ?_
  refine V.getf (v := .int (nI (F 6))) k dX3_entry_5 fl_X3_entry_56 (ms_o y F K N Z G0) rfl ?_
  refine V.cS (As := [.int (mx k0), .int (nI (F 6))]) (st1 := [.int (nI (hx k0 % 2 ^ F 6))]) k dX3_entry_8 (c_X3_low l w _ sz (mx k0) (F 6) (by omega)) gX3_entry_X3_low rfl hd_X3_low ⟨⟨Nat.le_of_ble_eq_true rfl, Nat.le_of_ble_eq_true rfl⟩, Nat.le_of_ble_eq_true rfl, Nat.le_of_ble_eq_true rfl⟩ rfl rfl rfl (Nat.le_of_ble_eq_true rfl) rfl ?_
  exact V.iret k hM dX3_entry_11 (Nat.le_of_ble_eq_true rfl) (Nat.le_of_ble_eq_true rfl) (rt_ok)
theorem fl_X3_find_63 : FL wsX3_find RX3 63 3 5 := ⟨RX3, TX3, 21, rfl, (fun _ h => List.mem_cons_of_mem _ (List.mem_append_right _ h)), by decide, List.mem_of_getElem? (i := 1) rfl, rfl⟩
theorem fl_X3_find_7 : FL wsX3_find RX3 7 3 3 := ⟨RX3, TX3, 21, rfl, (fun _ h => List.mem_cons_of_mem _ (List.mem_append_right _ h)), by decide, List.mem_of_getElem? (i := 2) rfl, rfl⟩
set_option maxHeartbeats 4000000 in
set_option maxRecDepth 100000 in
theorem c_X3_find (l : Launch) (w : Wd) (y sz : Nat) (F : Nat → Nat) (K : Nat → Nat → Int32) (N : Nat → Nat → Nat) (Z : Nat → Nat → Bool) (G0 : Pic) (k0 : Int32) (hn : F 5 ≤ 3100) : Ct l w yX3_find wsX3_find ⟨0, 0, 0, 0⟩ [.ref (y), .int (k0)] (mset y F K N Z G0) sz (rt (some (.int (if fnd (K 0) k0 (F 5) 0 < F 5 then nI (fnd (K 0) k0 (F 5) 0) else (-1)))) (mset y F K N Z G0) sz) := by
  refine Ct.of (cc := cX3_find) (maxL := 3) (ret := (some .int)) (L := [some (.ref (y)), some (.int (k0)), none]) (by decide +kernel) rfl (by simp [Value.category]) (by simp) rfl ?_
  intro p e s m args below meth c k hM
  generalize hA : fnd (K 0) k0 (F 5) 0 = A
  have fin : ∀ i, i ≤ F 5 → i = A → V p l e ⟨0, 0, 0, 0⟩ s m args below meth c w (mset y F K N Z G0) sz 0 0 (mQ w below args s ⟨0, 0, 0, 0⟩ (rt (some (.int (if A < F 5 then nI (A) else (-1)))) (mset y F K N Z G0) sz)) 26 [some (.ref (y)), some (.int (k0)), some (.int (nI (i)))] [] := by
    intro i h1 h2
    refine V.iload_n k dX3_find_26 rfl ?_
    refine V.aload_n k dX3_find_27 rfl ?_
    refine V.getf (v := .int (nI (F 5))) k dX3_find_28 fl_X3_find_63 (ms_o y F K N Z G0) rfl ?_
    refine V.n_ge (tgt := 38) k dX3_find_31 (by decide) (by omega) (by omega) (fun hb => ?_) (fun hb => ?_)
    · refine V.iconst (v := (-1)) k dX3_find_38 (by decide) ?_
      rw [if_neg (by omega)]
      exact V.iret k hM dX3_find_39 (Nat.le_of_ble_eq_true rfl) (Nat.le_of_ble_eq_true rfl) (rt_ok)
    · refine V.iload_n k dX3_find_34 rfl ?_
      refine V.goto (tgt := 39) k dX3_find_35 (by decide) ?_
      subst h2
      rw [if_pos (by omega)]
      exact V.iret k hM dX3_find_39 (Nat.le_of_ble_eq_true rfl) (Nat.le_of_ble_eq_true rfl) (rt_ok)
  have loop : ∀ n i, i ≤ F 5 → F 5 - i < n → fnd (K 0) k0 (F 5 - i) i = A → V p l e ⟨0, 0, 0, 0⟩ s m args below meth c w (mset y F K N Z G0) sz 0 0 (mQ w below args s ⟨0, 0, 0, 0⟩ (rt (some (.int (if A < F 5 then nI (A) else (-1)))) (mset y F K N Z G0) sz)) 2 [some (.ref (y)), some (.int (k0)), some (.int (nI (i)))] [] := by
    intro n
    induction n with
    | zero => intro i h1 h2 h3; omega
    | succ n ih =>
      intro i h1 h2 h3
      refine V.iload_n k dX3_find_2 rfl ?_
      refine V.aload_n k dX3_find_3 rfl ?_
      refine V.getf (v := .int (nI (F 5))) k dX3_find_4 fl_X3_find_63 (ms_o y F K N Z G0) rfl ?_
      refine V.n_ge (tgt := 26) k dX3_find_7 (by decide) (by omega) (by omega) (fun hb => ?_) (fun hb => ?_)
      · refine fin i h1 ?_
        rw [show F 5 - i = 0 by omega] at h3
        exact h3
      · rw [show F 5 - i = (F 5 - (i + 1)) + 1 by omega] at h3
        unfold fnd at h3
        refine V.aload_n k dX3_find_10 rfl ?_
        refine V.getf (v := .ref (y + 1)) k dX3_find_11 fl_X3_find_7 (ms_o y F K N Z G0) rfl ?_
        refine V.iload_n k dX3_find_14 rfl ?_
        refine V.iald (v := (K 0 (i))) k dX3_find_15 (ms_1 y F K N Z G0) rfl (by omega) (by omega) (rfl) ?_
        refine V.iload_n k dX3_find_16 rfl ?_
        refine V.icmp_eq (tgt := 26) k dX3_find_17 (by decide) (fun hb => ?_) (fun hb => ?_)
        · rw [if_pos hb] at h3
          exact fin i h1 h3
        · rw [if_neg hb] at h3
          refine V.iinc (x := (nI (i))) (v := (nI (i + 1))) (L' := [some (.ref (y)), some (.int (k0)), some (.int (nI (i + 1)))]) k dX3_find_20 rfl (nI_inc1 _) rfl ?_
          refine V.goto (tgt := 2) k dX3_find_23 (by decide) ?_
          exact ih (i + 1) (by omega) (by omega) h3
  refine V.iconst (v := nI 0) k dX3_find_0 (by decide) ?_
  refine V.istore_n (L' := [some (.ref (y)), some (.int (k0)), some (.int (nI (0)))]) k dX3_find_1 (Nat.le_of_ble_eq_true rfl) rfl ?_
  exact loop (F 5 + 1) 0 (by omega) (by omega) hA
theorem fl_X3_many_63 : FL wsX3_many RX3 63 3 5 := ⟨RX3, TX3, 21, rfl, (fun _ h => List.mem_cons_of_mem _ (List.mem_append_right _ h)), by decide, List.mem_of_getElem? (i := 1) rfl, rfl⟩
theorem fl_X3_many_7 : FL wsX3_many RX3 7 3 3 := ⟨RX3, TX3, 21, rfl, (fun _ h => List.mem_cons_of_mem _ (List.mem_append_right _ h)), by decide, List.mem_of_getElem? (i := 2) rfl, rfl⟩
set_option maxHeartbeats 4000000 in
set_option maxRecDepth 100000 in
theorem c_X3_many (l : Launch) (w : Wd) (y sz : Nat) (F : Nat → Nat) (K : Nat → Nat → Int32) (N : Nat → Nat → Nat) (Z : Nat → Nat → Bool) (G0 : Pic) (r0 : Int32) (b : Nat) (hn : F 5 ≤ 3100) (hb0 : b ≤ 30) : Ct l w yX3_many wsX3_many ⟨1, 0, 0, 21⟩ [.ref (y), .int (r0), .int (nI (b))] (mset y F K N Z G0) sz (rt (some (.int (nI (cnt (K 0) (tn r0) b (F 5))))) (mset y F K N Z G0) sz) := by
  refine Ct.of (cc := cX3_many) (maxL := 5) (ret := (some .int)) (L := [some (.ref (y)), some (.int (r0)), some (.int (nI (b))), none, none]) (by decide +kernel) rfl (by simp [Value.category]) (by simp) rfl ?_
  intro p e s m args below meth c k hM
  have loop : ∀ n i, i ≤ F 5 → F 5 - i < n → V p l e ⟨1, 0, 0, 21⟩ s m args below meth c w (mset y F K N Z G0) sz 0 0 (mQ w below args s ⟨1, 0, 0, 21⟩ (rt (some (.int (nI (cnt (K 0) (tn r0) b (F 5))))) (mset y F K N Z G0) sz)) 5 [some (.ref (y)), some (.int (r0)), some (.int (nI (b))), some (.int (nI (cnt (K 0) (tn r0) b i))), some (.int (nI (i)))] [] := by
    intro n
    induction n with
    | zero => intro i h1 h2; omega
    | succ n ih =>
      intro i h1 h2
      have hc := cnt_le (K 0) (tn r0) b i
      refine V.iload k dX3_many_5 rfl ?_
      refine V.aload_n k dX3_many_7 rfl ?_
      refine V.getf (v := .int (nI (F 5))) k dX3_many_8 fl_X3_many_63 (ms_o y F K N Z G0) rfl ?_
      refine V.n_ge (tgt := 50) k dX3_many_11 (by decide) (by omega) (by omega) (fun hb => ?_) (fun hb => ?_)
      · refine V.iload_n k dX3_many_50 rfl ?_
        have hi : i = F 5 := by omega
        subst hi
        exact V.iret k hM dX3_many_51 (Nat.le_of_ble_eq_true rfl) (Nat.le_of_ble_eq_true rfl) (rt_ok)
      · refine V.aload_n k dX3_many_14 rfl ?_
        refine V.getf (v := .ref (y + 1)) k dX3_many_15 fl_X3_many_7 (ms_o y F K N Z G0) rfl ?_
        refine V.iload k dX3_many_18 rfl ?_
        refine V.iald (v := (K 0 (i))) k dX3_many_20 (ms_1 y F K N Z G0) rfl (by omega) (by omega) (rfl) ?_
        refine V.cS (As := [.int (K 0 (i))]) (st1 := [.int (mx (K 0 i))]) k dX3_many_21 (c_X3_mixing l w _ sz (K 0 i)) gX3_many_X3_mixing rfl hd_X3_mixing ⟨⟨Nat.le_of_ble_eq_true rfl, Nat.le_of_ble_eq_true rfl⟩, Nat.le_of_ble_eq_true rfl, Nat.le_of_ble_eq_true rfl⟩ rfl rfl rfl (Nat.le_of_ble_eq_true rfl) rfl ?_
        refine V.iload_n k dX3_many_24 rfl ?_
        refine V.cS (As := [.int (mx (K 0 i)), .int (nI (b))]) (st1 := [.int (nI (hx (K 0 i) % 2 ^ b))]) k dX3_many_25 (c_X3_low l w _ sz (mx (K 0 i)) b (by omega)) gX3_many_X3_low rfl hd_X3_low ⟨⟨Nat.le_of_ble_eq_true rfl, Nat.le_of_ble_eq_true rfl⟩, Nat.le_of_ble_eq_true rfl, Nat.le_of_ble_eq_true rfl⟩ rfl rfl rfl (Nat.le_of_ble_eq_true rfl) rfl ?_
        refine V.iload_n k dX3_many_28 rfl ?_
        refine V.iload_n k dX3_many_29 rfl ?_
        refine V.cS (As := [.int (r0), .int (nI (b))]) (st1 := [.int (nI (tn r0 % 2 ^ b)), .int (nI (hx (K 0 i) % 2 ^ b))]) k dX3_many_30 (c_X3_low l w _ sz r0 b (by omega)) gX3_many_X3_low rfl hd_X3_low ⟨⟨Nat.le_of_ble_eq_true rfl, Nat.le_of_ble_eq_true rfl⟩, Nat.le_of_ble_eq_true rfl, Nat.le_of_ble_eq_true rfl⟩ rfl rfl rfl (Nat.le_of_ble_eq_true rfl) rfl ?_
        have hb1 : hx (K 0 i) % 2 ^ b < 2 ^ 31 := Nat.lt_of_lt_of_le (Nat.mod_lt _ (p2pos b)) (Nat.pow_le_pow_right (by omega) (by omega))
        have hb2 : tn r0 % 2 ^ b < 2 ^ 31 := Nat.lt_of_lt_of_le (Nat.mod_lt _ (p2pos b)) (Nat.pow_le_pow_right (by omega) (by omega))
        refine V.n_ne (tgt := 42) k dX3_many_33 (by decide) (hb1) (hb2) (fun hb => ?_) (fun hb => ?_)
        · refine V.iload_n k dX3_many_42 rfl ?_
          have hc2 : cnt (K 0) (tn r0) b i = cnt (K 0) (tn r0) b (i + 1) := by rw [cnt, if_neg hb]
          refine V.stk (st' := [.int (nI (cnt (K 0) (tn r0) b (i + 1)))]) (by rw [hc2]) ?_
          refine V.istore_n (L' := [some (.ref (y)), some (.int (r0)), some (.int (nI (b))), some (.int (nI (cnt (K 0) (tn r0) b (i + 1)))), some (.int (nI (i)))]) k dX3_many_43 (Nat.le_of_ble_eq_true rfl) rfl ?_
          refine V.iinc (x := (nI (i))) (v := (nI (i + 1))) (L' := [some (.ref (y)), some (.int (r0)), some (.int (nI (b))), some (.int (nI (cnt (K 0) (tn r0) b (i + 1)))), some (.int (nI (i + 1)))]) k dX3_many_44 rfl (nI_inc1 _) rfl ?_
          refine V.goto (tgt := 5) k dX3_many_47 (by decide) ?_
          exact ih (i + 1) (by omega) (by omega)
        · refine V.iload_n k dX3_many_36 rfl ?_
          refine V.iconst (v := nI 1) k dX3_many_37 (by decide) ?_
          refine V.iadd (v := (nI ((cnt (K 0) (tn r0) b i) + 1))) k dX3_many_38 (nI_add _ _) ?_
          refine V.goto (tgt := 43) k dX3_many_39 (by decide) ?_
          have hc2 : cnt (K 0) (tn r0) b i + 1 = cnt (K 0) (tn r0) b (i + 1) := by rw [cnt, if_pos hb]
          refine V.stk (st' := [.int (nI (cnt (K 0) (tn r0) b (i + 1)))]) (by rw [hc2]) ?_
          refine V.istore_n (L' := [some (.ref (y)), some (.int (r0)), some (.int (nI (b))), some (.int (nI (cnt (K 0) (tn r0) b (i + 1)))), some (.int (nI (i)))]) k dX3_many_43 (Nat.le_of_ble_eq_true rfl) rfl ?_
          refine V.iinc (x := (nI (i))) (v := (nI (i + 1))) (L' := [some (.ref (y)), some (.int (r0)), some (.int (nI (b))), some (.int (nI (cnt (K 0) (tn r0) b (i + 1)))), some (.int (nI (i + 1)))]) k dX3_many_44 rfl (nI_inc1 _) rfl ?_
          refine V.goto (tgt := 5) k dX3_many_47 (by decide) ?_
          exact ih (i + 1) (by omega) (by omega)
  refine V.iconst (v := nI 0) k dX3_many_0 (by decide) ?_
  refine V.istore_n (L' := [some (.ref (y)), some (.int (r0)), some (.int (nI (b))), some (.int (nI (0))), none]) k dX3_many_1 (Nat.le_of_ble_eq_true rfl) rfl ?_
  refine V.iconst (v := nI 0) k dX3_many_2 (by decide) ?_
  refine V.istore (L' := [some (.ref (y)), some (.int (r0)), some (.int (nI (b))), some (.int (nI (0))), some (.int (nI (0)))]) k dX3_many_3 (Nat.le_of_ble_eq_true rfl) rfl ?_
  exact loop (F 5 + 1) 0 (by omega) (by omega)
theorem fl_X3_isFirst_16 : FL wsX3_isFirst RX3 16 3 7 := ⟨RX3, TX3, 21, rfl, (fun _ h => List.mem_cons_of_mem _ (List.mem_append_right _ h)), by decide, List.mem_of_getElem? (i := 1) rfl, rfl⟩
set_option maxHeartbeats 4000000 in
set_option maxRecDepth 100000 in
theorem c_X3_isFirst (l : Launch) (w : Wd) (y sz : Nat) (F : Nat → Nat) (K : Nat → Nat → Int32) (N : Nat → Nat → Nat) (Z : Nat → Nat → Bool) (G0 : Pic) (i : Nat) (hi : i < 256) (hl : N 0 i ≤ 30) : Ct l w yX3_isFirst wsX3_isFirst ⟨1, 0, 0, 21⟩ [.ref (y), .int (nI (i))] (mset y F K N Z G0) sz (rt (some (.int (bI (decide (i % 2 ^ N 0 i = i))))) (mset y F K N Z G0) sz) := by
  refine Ct.of (cc := cX3_isFirst) (maxL := 2) (ret := (some .boolean)) (L := [some (.ref (y)), some (.int (nI (i)))]) (by decide +kernel) rfl (by simp [Value.category]) (by simp) rfl ?_
  intro p e s m args below meth c k hM
  refine V.iload_n k dX3_isFirst_0 rfl ?_
  refine V.aload_n k dX3_isFirst_1 rfl ?_
  refine V.getf (v := .ref (y + 3)) k dX3_isFirst_2 fl_X3_isFirst_16 (ms_o y F K N Z G0) rfl ?_
  refine V.iload_n k dX3_isFirst_5 rfl ?_
  refine V.iald (v := (nI (N 0 (i)))) k dX3_isFirst_6 (ms_3 y F K N Z G0) rfl (by omega) (by omega) (rfl) ?_
  refine V.cS (As := [.int (nI (i)), .int (nI (N 0 (i)))]) (st1 := [.int (nI (tn (nI i) % 2 ^ N 0 i))]) k dX3_isFirst_7 (c_X3_low l w _ sz (nI i) (N 0 i) hl) gX3_isFirst_X3_low rfl hd_X3_low ⟨⟨Nat.le_of_ble_eq_true rfl, Nat.le_of_ble_eq_true rfl⟩, Nat.le_of_ble_eq_true rfl, Nat.le_of_ble_eq_true rfl⟩ rfl rfl rfl (Nat.le_of_ble_eq_true rfl) rfl ?_
  rw [tn_nI (by omega : i < 2 ^ 32)]
  refine V.iload_n k dX3_isFirst_10 rfl ?_
  have hm : i % 2 ^ N 0 i ≤ i := Nat.mod_le _ _
  refine V.n_ne (tgt := 18) k dX3_isFirst_11 (by decide) (by omega) (by omega) (fun hb => ?_) (fun hb => ?_)
  · refine V.iconst (v := nI 0) k dX3_isFirst_18 (by decide) ?_
    rw [show bI (decide (i % 2 ^ N 0 i = i)) = nI 0 by simp [bI, hb]]
    exact V.zret k hM dX3_isFirst_19 (by first | rfl | decide) (Nat.le_of_ble_eq_true rfl) (Nat.le_of_ble_eq_true rfl) (rt_ok)
  · refine V.iconst (v := nI 1) k dX3_isFirst_14 (by decide) ?_
    refine V.goto (tgt := 19) k dX3_isFirst_15 (by decide) ?_
    rw [show bI (decide (i % 2 ^ N 0 i = i)) = nI 1 by simp [bI, hb]]
    exact V.zret k hM dX3_isFirst_19 (by first | rfl | decide) (Nat.le_of_ble_eq_true rfl) (Nat.le_of_ble_eq_true rfl) (rt_ok)
set_option maxHeartbeats 4000000 in
set_option maxRecDepth 100000 in
theorem c_X3_directory (l : Launch) (w : Wd) (G : Pic) (sz : Nat) (d : Nat) (hd : d ≤ 9) : Ct l w yX3_directory wsX3_directory ⟨0, 0, 0, 0⟩ [.int (nI (d))] G sz (rt (some (.int (nI (drB d)))) G sz) := by
  refine Ct.of (cc := cX3_directory) (maxL := 1) (ret := (some .int)) (L := [some (.int (nI (d)))]) (by decide +kernel) rfl (by simp [Value.category]) (by simp) rfl ?_
  intro p e s m args below meth c k hM
  refine V.iload_n k dX3_directory_0 rfl ?_
  refine V.bipush (v := nI 6) k dX3_directory_1 (by decide) ?_
  refine V.n_ge (tgt := 10) k dX3_directory_3 (by decide) (by omega) (by omega) (fun hb => ?_) (fun hb => ?_)
  · refine V.iconst (v := nI 1) k dX3_directory_10 (by decide) ?_
    refine V.iload_n k dX3_directory_11 rfl ?_
    refine V.iconst (v := nI 5) k dX3_directory_12 (by decide) ?_
    refine V.isub (v := (nI (d - 5))) k dX3_directory_13 (pk_sub (by omega)) ?_
    refine V.ishl (v := (nI (2 ^ (d - 5)))) k dX3_directory_14 (shl1 (by omega)) ?_
    rw [show drB d = 2 ^ (d - 5) by rw [drB, if_neg (by omega)]]
    exact V.iret k hM dX3_directory_15 (Nat.le_of_ble_eq_true rfl) (Nat.le_of_ble_eq_true rfl) (rt_ok)
  · refine V.iconst (v := nI 1) k dX3_directory_6 (by decide) ?_
    refine V.goto (tgt := 15) k dX3_directory_7 (by decide) ?_
    rw [show drB d = 1 by rw [drB, if_pos (by omega)]]
    exact V.iret k hM dX3_directory_15 (Nat.le_of_ble_eq_true rfl) (Nat.le_of_ble_eq_true rfl) (rt_ok)
