def cdn (A : Nat → Nat) (n : Nat) : Int32 := if A 8 = 0 then nI n else (-2000000003)
theorem fl_X2_size_50 : FL wsX2_size RX2 50 2 8 := ⟨RX2, TX2, 9, rfl, (fun _ h => List.mem_cons_of_mem _ (List.mem_append_left _ (List.mem_append_right _ h))), by decide, List.mem_of_getElem? (i := 1) rfl, rfl⟩
theorem fl_X2_size_38 : FL wsX2_size RX2 38 2 2 := ⟨RX2, TX2, 9, rfl, (fun _ h => List.mem_cons_of_mem _ (List.mem_append_left _ (List.mem_append_right _ h))), by decide, List.mem_of_getElem? (i := 3) rfl, rfl⟩
theorem fl_X2_size_98 : FL wsX2_size RX2 98 1 4 := ⟨RX1, TX1, 5, rfl, (fun _ h => List.mem_cons_of_mem _ (List.mem_append_right _ h)), by decide, List.mem_of_getElem? (i := 4) rfl, rfl⟩
set_option maxHeartbeats 4000000 in
set_option maxRecDepth 100000 in
theorem c_X2_size (l : Launch) (w : Wd) (y sz : Nat) (A : Nat → Nat) (S R DB : Nat → Nat → Nat) (T : Nat → Bool) (BI : Nat → Nat → Nat) (BD : Nat → Nat → Nat → Int32) (P : Nat → Prop) (M G : Pic) (hC : CS y sz A S R DB T BI BD P M G) : Ct l w yX2_size wsX2_size ⟨0, 0, 0, 0⟩ [.ref (y)] G sz (rt (some (.int (cdn A (S 0 4)))) G sz) := by
  refine Ct.of (cc := cX2_size) (maxL := 1) (ret := (some .int)) (L := [some (.ref (y))]) (by decide +kernel) rfl (by simp [Value.category]) (by simp) rfl ?_
  intro p e s m args below meth c k hM
  have hab := hC.ab
  obtain ⟨hA0, hA0b, hA1, hA5, hA7, hA8⟩ := hab
  have hsz := hC.2.2.1.2
  refine V.aload_n k dX2_size_0 rfl ?_
  refine V.getf (v := .int (nI (A 8))) k dX2_size_1 fl_X2_size_50 (hC.1.1) rfl ?_
  refine V.z_eq (tgt := 12) k dX2_size_4 (by decide) (by omega) (fun hd => ?_) (fun hd => ?_)
  · refine V.aload_n k dX2_size_12 rfl ?_
    refine V.getf (v := .ref (y + 4)) k dX2_size_13 fl_X2_size_38 (hC.1.1) rfl ?_
    refine V.getf (v := .int (nI (S 0 4))) k dX2_size_16 fl_X2_size_98 (hC.1.2.1.1) rfl ?_
    refine V.stk (st' := [.int (cdn A (S 0 4))]) (by unfold cdn; rw [if_pos hd]) ?_
    exact V.iret k hM dX2_size_19 (Nat.le_of_ble_eq_true rfl) (Nat.le_of_ble_eq_true rfl) (rt_ok)
  · refine V.ldc (v := (-2000000003)) k dX2_size_7 (List.mem_of_getElem? (i := 2) rfl) ?_
    refine V.goto (tgt := 19) k dX2_size_9 (by decide) ?_
    refine V.stk (st' := [.int (cdn A (S 0 4))]) (by unfold cdn; rw [if_neg (by omega)]) ?_
    exact V.iret k hM dX2_size_19 (Nat.le_of_ble_eq_true rfl) (Nat.le_of_ble_eq_true rfl) (rt_ok)
theorem fl_X2_depth_50 : FL wsX2_depth RX2 50 2 8 := ⟨RX2, TX2, 9, rfl, (fun _ h => List.mem_cons_of_mem _ (List.mem_append_left _ (List.mem_append_right _ h))), by decide, List.mem_of_getElem? (i := 1) rfl, rfl⟩
theorem fl_X2_depth_38 : FL wsX2_depth RX2 38 2 2 := ⟨RX2, TX2, 9, rfl, (fun _ h => List.mem_cons_of_mem _ (List.mem_append_left _ (List.mem_append_right _ h))), by decide, List.mem_of_getElem? (i := 3) rfl, rfl⟩
theorem fl_X2_depth_115 : FL wsX2_depth RX2 115 1 2 := ⟨RX1, TX1, 5, rfl, (fun _ h => List.mem_cons_of_mem _ (List.mem_append_right _ h)), by decide, List.mem_of_getElem? (i := 4) rfl, rfl⟩
set_option maxHeartbeats 4000000 in
set_option maxRecDepth 100000 in
theorem c_X2_depth (l : Launch) (w : Wd) (y sz : Nat) (A : Nat → Nat) (S R DB : Nat → Nat → Nat) (T : Nat → Bool) (BI : Nat → Nat → Nat) (BD : Nat → Nat → Nat → Int32) (P : Nat → Prop) (M G : Pic) (hC : CS y sz A S R DB T BI BD P M G) : Ct l w yX2_depth wsX2_depth ⟨0, 0, 0, 0⟩ [.ref (y)] G sz (rt (some (.int (cdn A (S 0 2)))) G sz) := by
  refine Ct.of (cc := cX2_depth) (maxL := 1) (ret := (some .int)) (L := [some (.ref (y))]) (by decide +kernel) rfl (by simp [Value.category]) (by simp) rfl ?_
  intro p e s m args below meth c k hM
  have hab := hC.ab
  obtain ⟨hA0, hA0b, hA1, hA5, hA7, hA8⟩ := hab
  have hsz := hC.2.2.1.2
  refine V.aload_n k dX2_depth_0 rfl ?_
  refine V.getf (v := .int (nI (A 8))) k dX2_depth_1 fl_X2_depth_50 (hC.1.1) rfl ?_
  refine V.z_eq (tgt := 12) k dX2_depth_4 (by decide) (by omega) (fun hd => ?_) (fun hd => ?_)
  · refine V.aload_n k dX2_depth_12 rfl ?_
    refine V.getf (v := .ref (y + 4)) k dX2_depth_13 fl_X2_depth_38 (hC.1.1) rfl ?_
    refine V.getf (v := .int (nI (S 0 2))) k dX2_depth_16 fl_X2_depth_115 (hC.1.2.1.1) rfl ?_
    refine V.stk (st' := [.int (cdn A (S 0 2))]) (by unfold cdn; rw [if_pos hd]) ?_
    exact V.iret k hM dX2_depth_19 (Nat.le_of_ble_eq_true rfl) (Nat.le_of_ble_eq_true rfl) (rt_ok)
  · refine V.ldc (v := (-2000000003)) k dX2_depth_7 (List.mem_of_getElem? (i := 2) rfl) ?_
    refine V.goto (tgt := 19) k dX2_depth_9 (by decide) ?_
    refine V.stk (st' := [.int (cdn A (S 0 2))]) (by unfold cdn; rw [if_neg (by omega)]) ?_
    exact V.iret k hM dX2_depth_19 (Nat.le_of_ble_eq_true rfl) (Nat.le_of_ble_eq_true rfl) (rt_ok)
theorem fl_X2_buckets_50 : FL wsX2_buckets RX2 50 2 8 := ⟨RX2, TX2, 9, rfl, (fun _ h => List.mem_cons_of_mem _ (List.mem_append_left _ (List.mem_append_right _ h))), by decide, List.mem_of_getElem? (i := 1) rfl, rfl⟩
theorem fl_X2_buckets_38 : FL wsX2_buckets RX2 38 2 2 := ⟨RX2, TX2, 9, rfl, (fun _ h => List.mem_cons_of_mem _ (List.mem_append_left _ (List.mem_append_right _ h))), by decide, List.mem_of_getElem? (i := 3) rfl, rfl⟩
theorem fl_X2_buckets_118 : FL wsX2_buckets RX2 118 1 3 := ⟨RX1, TX1, 5, rfl, (fun _ h => List.mem_cons_of_mem _ (List.mem_append_right _ h)), by decide, List.mem_of_getElem? (i := 4) rfl, rfl⟩
set_option maxHeartbeats 4000000 in
set_option maxRecDepth 100000 in
theorem c_X2_buckets (l : Launch) (w : Wd) (y sz : Nat) (A : Nat → Nat) (S R DB : Nat → Nat → Nat) (T : Nat → Bool) (BI : Nat → Nat → Nat) (BD : Nat → Nat → Nat → Int32) (P : Nat → Prop) (M G : Pic) (hC : CS y sz A S R DB T BI BD P M G) : Ct l w yX2_buckets wsX2_buckets ⟨0, 0, 0, 0⟩ [.ref (y)] G sz (rt (some (.int (cdn A (S 0 3)))) G sz) := by
  refine Ct.of (cc := cX2_buckets) (maxL := 1) (ret := (some .int)) (L := [some (.ref (y))]) (by decide +kernel) rfl (by simp [Value.category]) (by simp) rfl ?_
  intro p e s m args below meth c k hM
  have hab := hC.ab
  obtain ⟨hA0, hA0b, hA1, hA5, hA7, hA8⟩ := hab
  have hsz := hC.2.2.1.2
  refine V.aload_n k dX2_buckets_0 rfl ?_
  refine V.getf (v := .int (nI (A 8))) k dX2_buckets_1 fl_X2_buckets_50 (hC.1.1) rfl ?_
  refine V.z_eq (tgt := 12) k dX2_buckets_4 (by decide) (by omega) (fun hd => ?_) (fun hd => ?_)
  · refine V.aload_n k dX2_buckets_12 rfl ?_
    refine V.getf (v := .ref (y + 4)) k dX2_buckets_13 fl_X2_buckets_38 (hC.1.1) rfl ?_
    refine V.getf (v := .int (nI (S 0 3))) k dX2_buckets_16 fl_X2_buckets_118 (hC.1.2.1.1) rfl ?_
    refine V.stk (st' := [.int (cdn A (S 0 3))]) (by unfold cdn; rw [if_pos hd]) ?_
    exact V.iret k hM dX2_buckets_19 (Nat.le_of_ble_eq_true rfl) (Nat.le_of_ble_eq_true rfl) (rt_ok)
  · refine V.ldc (v := (-2000000003)) k dX2_buckets_7 (List.mem_of_getElem? (i := 2) rfl) ?_
    refine V.goto (tgt := 19) k dX2_buckets_9 (by decide) ?_
    refine V.stk (st' := [.int (cdn A (S 0 3))]) (by unfold cdn; rw [if_neg (by omega)]) ?_
    exact V.iret k hM dX2_buckets_19 (Nat.le_of_ble_eq_true rfl) (Nat.le_of_ble_eq_true rfl) (rt_ok)
theorem fl_X2_writes_131 : FL wsX2_writes RX2 131 2 6 := ⟨RX2, TX2, 9, rfl, (fun _ h => List.mem_cons_of_mem _ (List.mem_append_right _ h)), by decide, List.mem_of_getElem? (i := 1) rfl, rfl⟩
set_option maxHeartbeats 4000000 in
set_option maxRecDepth 100000 in
theorem c_X2_writes (l : Launch) (w : Wd) (y sz : Nat) (A : Nat → Nat) (S R DB : Nat → Nat → Nat) (T : Nat → Bool) (BI : Nat → Nat → Nat) (BD : Nat → Nat → Nat → Int32) (P : Nat → Prop) (M G : Pic) (hC : CS y sz A S R DB T BI BD P M G) : Ct l w yX2_writes wsX2_writes ⟨0, 0, 0, 0⟩ [.ref (y)] G sz (rt (some (.int (nI (A 6)))) G sz) := by
  refine Ct.of (cc := cX2_writes) (maxL := 1) (ret := (some .int)) (L := [some (.ref (y))]) (by decide +kernel) rfl (by simp [Value.category]) (by simp) rfl ?_
  intro p e s m args below meth c k hM
  refine V.aload_n k dX2_writes_0 rfl ?_
  refine V.getf (v := .int (nI (A 6))) k dX2_writes_1 fl_X2_writes_131 (hC.1.1) rfl ?_
  exact V.iret k hM dX2_writes_4 (Nat.le_of_ble_eq_true rfl) (Nat.le_of_ble_eq_true rfl) (rt_ok)
theorem fl_X2_get_50 : FL wsX2_get RX2 50 2 8 := ⟨RX2, TX2, 9, rfl, (fun _ h => List.mem_cons_of_mem _ (List.mem_append_left _ (List.mem_append_left _ (List.mem_append_right _ h)))), by decide, List.mem_of_getElem? (i := 1) rfl, rfl⟩
theorem fl_X2_get_38 : FL wsX2_get RX2 38 2 2 := ⟨RX2, TX2, 9, rfl, (fun _ h => List.mem_cons_of_mem _ (List.mem_append_left _ (List.mem_append_left _ (List.mem_append_right _ h)))), by decide, List.mem_of_getElem? (i := 3) rfl, rfl⟩
theorem fl_X2_get_101 : FL wsX2_get RX2 101 0 2 := ⟨RX0, TX0, 5, rfl, (fun _ h => List.mem_cons_of_mem _ (List.mem_append_left _ (List.mem_append_right _ h))), by decide, List.mem_of_getElem? (i := 4) rfl, rfl⟩
set_option maxHeartbeats 4000000 in
set_option maxRecDepth 100000 in
theorem c_X2_get_dn (l : Launch) (w : Wd) (y sz : Nat) (A : Nat → Nat) (S R DB : Nat → Nat → Nat) (T : Nat → Bool) (BI : Nat → Nat → Nat) (BD : Nat → Nat → Nat → Int32) (P : Nat → Prop) (M G : Pic) (hC : CS y sz A S R DB T BI BD P M G) (k0 : Int32) (hd : A 8 = 1) : Ct l w yX2_get wsX2_get ⟨2, 0, 0, 41⟩ [.ref (y), .int (k0)] G sz (rt (some (.int (-2000000003))) G sz) := by
  refine Ct.of (cc := cX2_get) (maxL := 4) (ret := (some .int)) (L := [some (.ref (y)), some (.int (k0)), none, none]) (by decide +kernel) rfl (by simp [Value.category]) (by simp) rfl ?_
  intro p e s m args below meth c k hM
  have hab := hC.ab
  obtain ⟨hA0, hA0b, hA1, hA5, hA7, hA8⟩ := hab
  have hsz := hC.2.2.1.2
  refine V.aload_n k dX2_get_0 rfl ?_
  refine V.getf (v := .int (nI (A 8))) k dX2_get_1 fl_X2_get_50 (hC.1.1) rfl ?_
  refine V.z_eq (tgt := 10) k dX2_get_4 (by decide) (by omega) (fun hq => ?_) (fun hq => ?_)
  · exact absurd hq (by omega)
  · refine V.ldc (v := (-2000000003)) k dX2_get_7 (List.mem_of_getElem? (i := 2) rfl) ?_
    exact V.iret k hM dX2_get_9 (Nat.le_of_ble_eq_true rfl) (Nat.le_of_ble_eq_true rfl) (rt_ok)
set_option maxHeartbeats 4000000 in
set_option maxRecDepth 100000 in
theorem c_X2_get_up (l : Launch) (w : Wd) (y sz : Nat) (A : Nat → Nat) (S R DB : Nat → Nat → Nat) (T : Nat → Bool) (BI : Nat → Nat → Nat) (BD : Nat → Nat → Nat → Int32) (P : Nat → Prop) (M G : Pic) (hC : CS y sz A S R DB T BI BD P M G) (k0 : Int32) (hd : A 8 = 0) (hS2 : S 0 2 ≤ A 1) (hb : P (R 0 (hx k0 % 2 ^ S 0 2))) (hc15 : BI 3 (R 0 (hx k0 % 2 ^ S 0 2)) ≤ 15) : Ct l w yX2_get wsX2_get ⟨2, 0, 0, 41⟩ [.ref (y), .int (k0)] G sz (rt (some (.int (if fnd (BD 0 (R 0 (hx k0 % 2 ^ S 0 2))) k0 (BI 3 (R 0 (hx k0 % 2 ^ S 0 2))) 0 < BI 3 (R 0 (hx k0 % 2 ^ S 0 2)) then BD 1 (R 0 (hx k0 % 2 ^ S 0 2)) (fnd (BD 0 (R 0 (hx k0 % 2 ^ S 0 2))) k0 (BI 3 (R 0 (hx k0 % 2 ^ S 0 2))) 0) else nI 0))) G sz) := by
  refine Ct.of (cc := cX2_get) (maxL := 4) (ret := (some .int)) (L := [some (.ref (y)), some (.int (k0)), none, none]) (by decide +kernel) rfl (by simp [Value.category]) (by simp) rfl ?_
  intro p e s m args below meth c k hM
  have hab := hC.ab
  obtain ⟨hA0, hA0b, hA1, hA5, hA7, hA8⟩ := hab
  have hsz := hC.2.2.1.2
  have hpw : 2 ^ S 0 2 ≤ 2 ^ A 1 := Nat.pow_le_pow_right (by omega) hS2
  have hpA := p2le hA1
  refine V.aload_n k dX2_get_0 rfl ?_
  refine V.getf (v := .int (nI (A 8))) k dX2_get_1 fl_X2_get_50 (hC.1.1) rfl ?_
  refine V.z_eq (tgt := 10) k dX2_get_4 (by decide) (by omega) (fun hq => ?_) (fun hq => ?_)
  · refine V.aload_n k dX2_get_10 rfl ?_
    refine V.getf (v := .ref (y + 4)) k dX2_get_11 fl_X2_get_38 (hC.1.1) rfl ?_
    refine V.iload_n k dX2_get_14 rfl ?_
    refine V.cS (As := [.int (k0)]) (st1 := [.int (mx k0), .ref (y + 4)]) k dX2_get_15 (c_X2_mix l w G sz k0) gX2_get_X2_mix rfl hd_X2_mix ⟨⟨Nat.le_of_ble_eq_true rfl, Nat.le_of_ble_eq_true rfl⟩, Nat.le_of_ble_eq_true rfl, Nat.le_of_ble_eq_true rfl⟩ rfl rfl rfl (Nat.le_of_ble_eq_true rfl) rfl ?_
    refine V.cV (As := [.int (mx k0)]) (ci := 1) (st1 := [.ref (R 0 (hx k0 % 2 ^ S 0 2))]) k dX2_get_18 (c_X1_bucketOf l w (y + 4) sz G _ _ _ _ _ _ _ hC.1.2.1 (by omega) (by omega) (by omega) (mx k0)) gX2_get_X1_bucketOf rfl rfl (hC.1.2.1.1) ⟨rfl, hd_X1_bucketOf⟩ ⟨⟨Nat.le_of_ble_eq_true rfl, Nat.le_of_ble_eq_true rfl⟩, Nat.le_of_ble_eq_true rfl, Nat.le_of_ble_eq_true rfl⟩ rfl rfl rfl (Nat.le_of_ble_eq_true rfl) rfl ?_
    refine V.astore_n (L' := [some (.ref (y)), some (.int (k0)), some (.ref (R 0 (hx k0 % 2 ^ S 0 2))), none]) k dX2_get_21 (Nat.le_of_ble_eq_true rfl) rfl ?_
    refine V.aload_n k dX2_get_22 rfl ?_
    refine V.iload_n k dX2_get_23 rfl ?_
    by_cases hp : fnd (BD 0 (R 0 (hx k0 % 2 ^ S 0 2))) k0 (BI 3 (R 0 (hx k0 % 2 ^ S 0 2))) 0 < BI 3 (R 0 (hx k0 % 2 ^ S 0 2))
    · rw [if_pos hp]
      refine V.cV (As := [.int (k0)]) (ci := 0) (st1 := [.int (nI (fnd (BD 0 (R 0 (hx k0 % 2 ^ S 0 2))) k0 (BI 3 (R 0 (hx k0 % 2 ^ S 0 2))) 0))]) k dX2_get_24 (c_X0_placeOf_yes l w (R 0 (hx k0 % 2 ^ S 0 2)) sz G _ _ _ _ _ (hC.bk hb) hc15 k0 hp) gX2_get_X0_placeOf rfl rfl ((hC.bk hb).1) ⟨rfl, hd_X0_placeOf⟩ ⟨⟨Nat.le_of_ble_eq_true rfl, Nat.le_of_ble_eq_true rfl⟩, Nat.le_of_ble_eq_true rfl, Nat.le_of_ble_eq_true rfl⟩ rfl rfl rfl (Nat.le_of_ble_eq_true rfl) rfl ?_
      refine V.istore_n (L' := [some (.ref (y)), some (.int (k0)), some (.ref (R 0 (hx k0 % 2 ^ S 0 2))), some (.int (nI (fnd (BD 0 (R 0 (hx k0 % 2 ^ S 0 2))) k0 (BI 3 (R 0 (hx k0 % 2 ^ S 0 2))) 0)))]) k dX2_get_27 (Nat.le_of_ble_eq_true rfl) rfl ?_
      refine V.iload_n k dX2_get_28 rfl ?_
      refine V.z_ge (tgt := 36) k dX2_get_29 (by decide) (by omega) (fun hs => ?_) (fun hs => ?_)
      · refine V.aload_n k dX2_get_36 rfl ?_
        refine V.getf (v := .ref (R 0 (hx k0 % 2 ^ S 0 2) + 2)) k dX2_get_37 fl_X2_get_101 ((hC.bk hb).1) rfl ?_
        refine V.iload_n k dX2_get_40 rfl ?_
        refine V.iald (v := ((BD 1 (R 0 (hx k0 % 2 ^ S 0 2))) (fnd (BD 0 (R 0 (hx k0 % 2 ^ S 0 2))) k0 (BI 3 (R 0 (hx k0 % 2 ^ S 0 2))) 0))) k dX2_get_41 ((hC.bk hb).2.2) rfl (by omega) (by omega) (rfl) ?_
        exact V.iret k hM dX2_get_42 (Nat.le_of_ble_eq_true rfl) (Nat.le_of_ble_eq_true rfl) (rt_ok)
      · exact absurd hs id
    · rw [if_neg hp]
      refine V.cV (As := [.int (k0)]) (ci := 0) (st1 := [.int ((-1))]) k dX2_get_24 (c_X0_placeOf_no l w (R 0 (hx k0 % 2 ^ S 0 2)) sz G _ _ _ _ _ (hC.bk hb) hc15 k0 hp) gX2_get_X0_placeOf rfl rfl ((hC.bk hb).1) ⟨rfl, hd_X0_placeOf⟩ ⟨⟨Nat.le_of_ble_eq_true rfl, Nat.le_of_ble_eq_true rfl⟩, Nat.le_of_ble_eq_true rfl, Nat.le_of_ble_eq_true rfl⟩ rfl rfl rfl (Nat.le_of_ble_eq_true rfl) rfl ?_
      refine V.istore_n (L' := [some (.ref (y)), some (.int (k0)), some (.ref (R 0 (hx k0 % 2 ^ S 0 2))), some (.int ((-1)))]) k dX2_get_27 (Nat.le_of_ble_eq_true rfl) rfl ?_
      refine V.iload_n k dX2_get_28 rfl ?_
      refine V.if_ge (tgt := 36) k dX2_get_29 (by decide) (fun hs => ?_) (fun hs => ?_)
      · exact absurd hs (by decide +kernel)
      · refine V.iconst (v := nI 0) k dX2_get_32 (by decide) ?_
        refine V.goto (tgt := 42) k dX2_get_33 (by decide) ?_
        exact V.iret k hM dX2_get_42 (Nat.le_of_ble_eq_true rfl) (Nat.le_of_ble_eq_true rfl) (rt_ok)
  · exact absurd hq (by omega)
theorem fl_X2_has_50 : FL wsX2_has RX2 50 2 8 := ⟨RX2, TX2, 9, rfl, (fun _ h => List.mem_cons_of_mem _ (List.mem_append_left _ (List.mem_append_left _ (List.mem_append_right _ h)))), by decide, List.mem_of_getElem? (i := 1) rfl, rfl⟩
theorem fl_X2_has_38 : FL wsX2_has RX2 38 2 2 := ⟨RX2, TX2, 9, rfl, (fun _ h => List.mem_cons_of_mem _ (List.mem_append_left _ (List.mem_append_left _ (List.mem_append_right _ h)))), by decide, List.mem_of_getElem? (i := 2) rfl, rfl⟩
set_option maxHeartbeats 4000000 in
set_option maxRecDepth 100000 in
theorem c_X2_has_dn (l : Launch) (w : Wd) (y sz : Nat) (A : Nat → Nat) (S R DB : Nat → Nat → Nat) (T : Nat → Bool) (BI : Nat → Nat → Nat) (BD : Nat → Nat → Nat → Int32) (P : Nat → Prop) (M G : Pic) (hC : CS y sz A S R DB T BI BD P M G) (k0 : Int32) (hd : A 8 = 1) : Ct l w yX2_has wsX2_has ⟨2, 0, 0, 41⟩ [.ref (y), .int (k0)] G sz (rt (some (.int (nI 0))) G sz) := by
  refine Ct.of (cc := cX2_has) (maxL := 2) (ret := (some .boolean)) (L := [some (.ref (y)), some (.int (k0))]) (by decide +kernel) rfl (by simp [Value.category]) (by simp) rfl ?_
  intro p e s m args below meth c k hM
  have hab := hC.ab
  obtain ⟨hA0, hA0b, hA1, hA5, hA7, hA8⟩ := hab
  have hsz := hC.2.2.1.2
  refine V.aload_n k dX2_has_0 rfl ?_
  refine V.getf (v := .int (nI (A 8))) k dX2_has_1 fl_X2_has_50 (hC.1.1) rfl ?_
  refine V.z_ne (tgt := 29) k dX2_has_4 (by decide) (by omega) (fun hq => ?_) (fun hq => ?_)
  · refine V.iconst (v := nI 0) k dX2_has_29 (by decide) ?_
    exact V.zret k hM dX2_has_30 (by first | rfl | decide) (Nat.le_of_ble_eq_true rfl) (Nat.le_of_ble_eq_true rfl) (rt_ok)
  · exact absurd hq (by omega)
set_option maxHeartbeats 4000000 in
set_option maxRecDepth 100000 in
theorem c_X2_has_up (l : Launch) (w : Wd) (y sz : Nat) (A : Nat → Nat) (S R DB : Nat → Nat → Nat) (T : Nat → Bool) (BI : Nat → Nat → Nat) (BD : Nat → Nat → Nat → Int32) (P : Nat → Prop) (M G : Pic) (hC : CS y sz A S R DB T BI BD P M G) (k0 : Int32) (hd : A 8 = 0) (hS2 : S 0 2 ≤ A 1) (hb : P (R 0 (hx k0 % 2 ^ S 0 2))) (hc15 : BI 3 (R 0 (hx k0 % 2 ^ S 0 2)) ≤ 15) : Ct l w yX2_has wsX2_has ⟨2, 0, 0, 41⟩ [.ref (y), .int (k0)] G sz (rt (some (.int (bI (decide (fnd (BD 0 (R 0 (hx k0 % 2 ^ S 0 2))) k0 (BI 3 (R 0 (hx k0 % 2 ^ S 0 2))) 0 < BI 3 (R 0 (hx k0 % 2 ^ S 0 2))))))) G sz) := by
  refine Ct.of (cc := cX2_has) (maxL := 2) (ret := (some .boolean)) (L := [some (.ref (y)), some (.int (k0))]) (by decide +kernel) rfl (by simp [Value.category]) (by simp) rfl ?_
  intro p e s m args below meth c k hM
  have hab := hC.ab
  obtain ⟨hA0, hA0b, hA1, hA5, hA7, hA8⟩ := hab
  have hsz := hC.2.2.1.2
  have hpw : 2 ^ S 0 2 ≤ 2 ^ A 1 := Nat.pow_le_pow_right (by omega) hS2
  have hpA := p2le hA1
  refine V.aload_n k dX2_has_0 rfl ?_
  refine V.getf (v := .int (nI (A 8))) k dX2_has_1 fl_X2_has_50 (hC.1.1) rfl ?_
  refine V.z_ne (tgt := 29) k dX2_has_4 (by decide) (by omega) (fun hq => ?_) (fun hq => ?_)
  · exact absurd hq (by omega)
  · refine V.aload_n k dX2_has_7 rfl ?_
    refine V.getf (v := .ref (y + 4)) k dX2_has_8 fl_X2_has_38 (hC.1.1) rfl ?_
    refine V.iload_n k dX2_has_11 rfl ?_
    refine V.cS (As := [.int (k0)]) (st1 := [.int (mx k0), .ref (y + 4)]) k dX2_has_12 (c_X2_mix l w G sz k0) gX2_has_X2_mix rfl hd_X2_mix ⟨⟨Nat.le_of_ble_eq_true rfl, Nat.le_of_ble_eq_true rfl⟩, Nat.le_of_ble_eq_true rfl, Nat.le_of_ble_eq_true rfl⟩ rfl rfl rfl (Nat.le_of_ble_eq_true rfl) rfl ?_
    refine V.cV (As := [.int (mx k0)]) (ci := 1) (st1 := [.ref (R 0 (hx k0 % 2 ^ S 0 2))]) k dX2_has_15 (c_X1_bucketOf l w (y + 4) sz G _ _ _ _ _ _ _ hC.1.2.1 (by omega) (by omega) (by omega) (mx k0)) gX2_has_X1_bucketOf rfl rfl (hC.1.2.1.1) ⟨rfl, hd_X1_bucketOf⟩ ⟨⟨Nat.le_of_ble_eq_true rfl, Nat.le_of_ble_eq_true rfl⟩, Nat.le_of_ble_eq_true rfl, Nat.le_of_ble_eq_true rfl⟩ rfl rfl rfl (Nat.le_of_ble_eq_true rfl) rfl ?_
    refine V.iload_n k dX2_has_18 rfl ?_
    by_cases hp : fnd (BD 0 (R 0 (hx k0 % 2 ^ S 0 2))) k0 (BI 3 (R 0 (hx k0 % 2 ^ S 0 2))) 0 < BI 3 (R 0 (hx k0 % 2 ^ S 0 2))
    · rw [show decide (_ < _) = true from decide_eq_true hp]
      refine V.cV (As := [.int (k0)]) (ci := 0) (st1 := [.int (nI (fnd (BD 0 (R 0 (hx k0 % 2 ^ S 0 2))) k0 (BI 3 (R 0 (hx k0 % 2 ^ S 0 2))) 0))]) k dX2_has_19 (c_X0_placeOf_yes l w (R 0 (hx k0 % 2 ^ S 0 2)) sz G _ _ _ _ _ (hC.bk hb) hc15 k0 hp) gX2_has_X0_placeOf rfl rfl ((hC.bk hb).1) ⟨rfl, hd_X0_placeOf⟩ ⟨⟨Nat.le_of_ble_eq_true rfl, Nat.le_of_ble_eq_true rfl⟩, Nat.le_of_ble_eq_true rfl, Nat.le_of_ble_eq_true rfl⟩ rfl rfl rfl (Nat.le_of_ble_eq_true rfl) rfl ?_
      refine V.z_lt (tgt := 29) k dX2_has_22 (by decide) (by omega) (fun hs => ?_) (fun hs => ?_)
      · exact absurd hs id
      · refine V.iconst (v := nI 1) k dX2_has_25 (by decide) ?_
        refine V.goto (tgt := 30) k dX2_has_26 (by decide) ?_
        exact V.zret k hM dX2_has_30 (by first | rfl | decide) (Nat.le_of_ble_eq_true rfl) (Nat.le_of_ble_eq_true rfl) (rt_ok)
    · rw [show decide (_ < _) = false from decide_eq_false hp]
      refine V.cV (As := [.int (k0)]) (ci := 0) (st1 := [.int ((-1))]) k dX2_has_19 (c_X0_placeOf_no l w (R 0 (hx k0 % 2 ^ S 0 2)) sz G _ _ _ _ _ (hC.bk hb) hc15 k0 hp) gX2_has_X0_placeOf rfl rfl ((hC.bk hb).1) ⟨rfl, hd_X0_placeOf⟩ ⟨⟨Nat.le_of_ble_eq_true rfl, Nat.le_of_ble_eq_true rfl⟩, Nat.le_of_ble_eq_true rfl, Nat.le_of_ble_eq_true rfl⟩ rfl rfl rfl (Nat.le_of_ble_eq_true rfl) rfl ?_
      refine V.if_lt (tgt := 29) k dX2_has_22 (by decide) (fun hs => ?_) (fun hs => ?_)
      · refine V.iconst (v := nI 0) k dX2_has_29 (by decide) ?_
        exact V.zret k hM dX2_has_30 (by first | rfl | decide) (Nat.le_of_ble_eq_true rfl) (Nat.le_of_ble_eq_true rfl) (rt_ok)
      · exact absurd (by decide +kernel) hs
theorem sw_out {x : Int32} (h0 : ¬ x = 0) (h1 : ¬ x = nI 1) (h2 : ¬ x = nI 2) : x.toInt < 0 ∨ 2 < x.toInt := by
  have e0 : ¬ x.toInt = (0 : Int32).toInt := fun q => h0 (Int32.toInt_inj.mp q)
  have e1 : ¬ x.toInt = (nI 1).toInt := fun q => h1 (Int32.toInt_inj.mp q)
  have e2 : ¬ x.toInt = (nI 2).toInt := fun q => h2 (Int32.toInt_inj.mp q)
  have z0 : (0 : Int32).toInt = 0 := by decide +kernel
  have z1 : (nI 1).toInt = 1 := by decide +kernel
  have z2 : (nI 2).toInt = 2 := by decide +kernel
  rw [z0] at e0
  rw [z1] at e1
  rw [z2] at e2
  omega
theorem fl_X2_bucket_50 : FL wsX2_bucket RX2 50 2 8 := ⟨RX2, TX2, 9, rfl, (fun _ h => List.mem_cons_of_mem _ (List.mem_append_left _ (List.mem_append_left _ (List.mem_append_right _ h)))), by decide, List.mem_of_getElem? (i := 1) rfl, rfl⟩
theorem fl_X2_bucket_38 : FL wsX2_bucket RX2 38 2 2 := ⟨RX2, TX2, 9, rfl, (fun _ h => List.mem_cons_of_mem _ (List.mem_append_left _ (List.mem_append_left _ (List.mem_append_right _ h)))), by decide, List.mem_of_getElem? (i := 3) rfl, rfl⟩
theorem fl_X2_bucket_81 : FL wsX2_bucket RX2 81 0 0 := ⟨RX0, TX0, 5, rfl, (fun _ h => List.mem_cons_of_mem _ (List.mem_append_left _ (List.mem_append_right _ h))), by decide, List.mem_of_getElem? (i := 4) rfl, rfl⟩
theorem fl_X2_bucket_71 : FL wsX2_bucket RX2 71 0 3 := ⟨RX0, TX0, 5, rfl, (fun _ h => List.mem_cons_of_mem _ (List.mem_append_left _ (List.mem_append_right _ h))), by decide, List.mem_of_getElem? (i := 5) rfl, rfl⟩
theorem fl_X2_bucket_30 : FL wsX2_bucket RX2 30 0 4 := ⟨RX0, TX0, 5, rfl, (fun _ h => List.mem_cons_of_mem _ (List.mem_append_left _ (List.mem_append_right _ h))), by decide, List.mem_of_getElem? (i := 6) rfl, rfl⟩
set_option maxHeartbeats 4000000 in
set_option maxRecDepth 100000 in
theorem c_X2_bucket_dn (l : Launch) (w : Wd) (y sz : Nat) (A : Nat → Nat) (S R DB : Nat → Nat → Nat) (T : Nat → Bool) (BI : Nat → Nat → Nat) (BD : Nat → Nat → Nat → Int32) (P : Nat → Prop) (M G : Pic) (hC : CS y sz A S R DB T BI BD P M G) (k0 wh : Int32) (hd : A 8 = 1) : Ct l w yX2_bucket wsX2_bucket ⟨2, 0, 0, 41⟩ [.ref (y), .int (k0), .int (wh)] G sz (rt (some (.int (-2000000003))) G sz) := by
  refine Ct.of (cc := cX2_bucket) (maxL := 4) (ret := (some .int)) (L := [some (.ref (y)), some (.int (k0)), some (.int (wh)), none]) (by decide +kernel) rfl (by simp [Value.category]) (by simp) rfl ?_
  intro p e s m args below meth c k hM
  have hab := hC.ab
  obtain ⟨hA0, hA0b, hA1, hA5, hA7, hA8⟩ := hab
  have hsz := hC.2.2.1.2
  refine V.aload_n k dX2_bucket_0 rfl ?_
  refine V.getf (v := .int (nI (A 8))) k dX2_bucket_1 fl_X2_bucket_50 (hC.1.1) rfl ?_
  refine V.z_eq (tgt := 10) k dX2_bucket_4 (by decide) (by omega) (fun hq => ?_) (fun hq => ?_)
  · exact absurd hq (by omega)
  · refine V.ldc (v := (-2000000003)) k dX2_bucket_7 (List.mem_of_getElem? (i := 2) rfl) ?_
    exact V.iret k hM dX2_bucket_9 (Nat.le_of_ble_eq_true rfl) (Nat.le_of_ble_eq_true rfl) (rt_ok)
set_option maxHeartbeats 4000000 in
set_option maxRecDepth 100000 in
theorem c_X2_bucket_up (l : Launch) (w : Wd) (y sz : Nat) (A : Nat → Nat) (S R DB : Nat → Nat → Nat) (T : Nat → Bool) (BI : Nat → Nat → Nat) (BD : Nat → Nat → Nat → Int32) (P : Nat → Prop) (M G : Pic) (hC : CS y sz A S R DB T BI BD P M G) (k0 wh : Int32) (hd : A 8 = 0) (hS2 : S 0 2 ≤ A 1) (hb : P (R 0 (hx k0 % 2 ^ S 0 2))) (hc15 : BI 3 (R 0 (hx k0 % 2 ^ S 0 2)) ≤ 15) : Ct l w yX2_bucket wsX2_bucket ⟨2, 0, 0, 41⟩ [.ref (y), .int (k0), .int (wh)] G sz (rt (some (.int (if wh = 0 then nI (BI 0 (R 0 (hx k0 % 2 ^ S 0 2))) else if wh = nI 1 then nI (BI 3 (R 0 (hx k0 % 2 ^ S 0 2))) else if wh = nI 2 then nI (BI 4 (R 0 (hx k0 % 2 ^ S 0 2))) else nI 0))) G sz) := by
  refine Ct.of (cc := cX2_bucket) (maxL := 4) (ret := (some .int)) (L := [some (.ref (y)), some (.int (k0)), some (.int (wh)), none]) (by decide +kernel) rfl (by simp [Value.category]) (by simp) rfl ?_
  intro p e s m args below meth c k hM
  have hab := hC.ab
  obtain ⟨hA0, hA0b, hA1, hA5, hA7, hA8⟩ := hab
  have hsz := hC.2.2.1.2
  have hpw : 2 ^ S 0 2 ≤ 2 ^ A 1 := Nat.pow_le_pow_right (by omega) hS2
  have hpA := p2le hA1
  refine V.aload_n k dX2_bucket_0 rfl ?_
  refine V.getf (v := .int (nI (A 8))) k dX2_bucket_1 fl_X2_bucket_50 (hC.1.1) rfl ?_
  refine V.z_eq (tgt := 10) k dX2_bucket_4 (by decide) (by omega) (fun hq => ?_) (fun hq => ?_)
  · refine V.aload_n k dX2_bucket_10 rfl ?_
    refine V.getf (v := .ref (y + 4)) k dX2_bucket_11 fl_X2_bucket_38 (hC.1.1) rfl ?_
    refine V.iload_n k dX2_bucket_14 rfl ?_
    refine V.cS (As := [.int (k0)]) (st1 := [.int (mx k0), .ref (y + 4)]) k dX2_bucket_15 (c_X2_mix l w G sz k0) gX2_bucket_X2_mix rfl hd_X2_mix ⟨⟨Nat.le_of_ble_eq_true rfl, Nat.le_of_ble_eq_true rfl⟩, Nat.le_of_ble_eq_true rfl, Nat.le_of_ble_eq_true rfl⟩ rfl rfl rfl (Nat.le_of_ble_eq_true rfl) rfl ?_
    refine V.cV (As := [.int (mx k0)]) (ci := 1) (st1 := [.ref (R 0 (hx k0 % 2 ^ S 0 2))]) k dX2_bucket_18 (c_X1_bucketOf l w (y + 4) sz G _ _ _ _ _ _ _ hC.1.2.1 (by omega) (by omega) (by omega) (mx k0)) gX2_bucket_X1_bucketOf rfl rfl (hC.1.2.1.1) ⟨rfl, hd_X1_bucketOf⟩ ⟨⟨Nat.le_of_ble_eq_true rfl, Nat.le_of_ble_eq_true rfl⟩, Nat.le_of_ble_eq_true rfl, Nat.le_of_ble_eq_true rfl⟩ rfl rfl rfl (Nat.le_of_ble_eq_true rfl) rfl ?_
    refine V.astore_n (L' := [some (.ref (y)), some (.int (k0)), some (.int (wh)), some (.ref (R 0 (hx k0 % 2 ^ S 0 2)))]) k dX2_bucket_21 (Nat.le_of_ble_eq_true rfl) rfl ?_
    refine V.iload_n k dX2_bucket_22 rfl ?_
    by_cases h0 : wh = 0
    · subst h0
      rw [if_pos rfl]
      refine V.tableIn (tgt := 48) k dX2_bucket_23 (by decide +kernel) (by decide +kernel) (show _ = some (25) by decide +kernel) (by decide) ?_
      refine V.aload_n k dX2_bucket_48 rfl ?_
      refine V.getf (v := .int (nI (BI 0 (R 0 (hx k0 % 2 ^ S 0 2))))) k dX2_bucket_49 fl_X2_bucket_81 ((hC.bk hb).1) rfl ?_
      exact V.iret k hM dX2_bucket_52 (Nat.le_of_ble_eq_true rfl) (Nat.le_of_ble_eq_true rfl) (rt_ok)
    · skip
      by_cases h1 : wh = nI 1
      · subst h1
        rw [if_neg (by decide +kernel)]
        rw [if_pos rfl]
        refine V.tableIn (tgt := 53) k dX2_bucket_23 (by decide +kernel) (by decide +kernel) (show _ = some (30) by decide +kernel) (by decide) ?_
        refine V.aload_n k dX2_bucket_53 rfl ?_
        refine V.getf (v := .int (nI (BI 3 (R 0 (hx k0 % 2 ^ S 0 2))))) k dX2_bucket_54 fl_X2_bucket_71 ((hC.bk hb).1) rfl ?_
        exact V.iret k hM dX2_bucket_57 (Nat.le_of_ble_eq_true rfl) (Nat.le_of_ble_eq_true rfl) (rt_ok)
      · skip
        by_cases h2 : wh = nI 2
        · subst h2
          rw [if_neg (by decide +kernel)]
          rw [if_neg (by decide +kernel)]
          rw [if_pos rfl]
          refine V.tableIn (tgt := 58) k dX2_bucket_23 (by decide +kernel) (by decide +kernel) (show _ = some (35) by decide +kernel) (by decide) ?_
          refine V.aload_n k dX2_bucket_58 rfl ?_
          refine V.getf (v := .int (nI (BI 4 (R 0 (hx k0 % 2 ^ S 0 2))))) k dX2_bucket_59 fl_X2_bucket_30 ((hC.bk hb).1) rfl ?_
          exact V.iret k hM dX2_bucket_62 (Nat.le_of_ble_eq_true rfl) (Nat.le_of_ble_eq_true rfl) (rt_ok)
        · skip
          rw [if_neg h0, if_neg h1, if_neg h2]
          refine V.tableOut (tgt := 63) k dX2_bucket_23 (sw_out h0 h1 h2) (by decide) ?_
          refine V.iconst (v := nI 0) k dX2_bucket_63 (by decide) ?_
          exact V.iret k hM dX2_bucket_64 (Nat.le_of_ble_eq_true rfl) (Nat.le_of_ble_eq_true rfl) (rt_ok)
  · exact absurd hq (by omega)
theorem cra_eq (n : Int32) : (if nI 0 < n then n else nI 0) = nI (if n < 1 then 0 else tn n) := by
  have e0 : (1 : Int32) = nI 1 := by decide +kernel
  by_cases h : nI 0 < n
  · rw [if_pos h, if_neg, nI_tn]
    intro h2
    rw [Int32.lt_iff_toInt_lt] at h h2
    have z0 : (nI 0).toInt = 0 := by decide +kernel
    have z1 : (1 : Int32).toInt = 1 := by decide +kernel
    omega
  · rw [if_neg h, if_pos]
    rw [Int32.lt_iff_toInt_lt]
    have h2 := Int32.le_iff_toInt_le.mp (Int32.not_lt.mp h)
    have z0 : (nI 0).toInt = 0 := by decide +kernel
    have z1 : (1 : Int32).toInt = 1 := by decide +kernel
    omega
theorem fl_X2_crashAfter_50 : FL wsX2_crashAfter RX2 50 2 8 := ⟨RX2, TX2, 9, rfl, (fun _ h => List.mem_cons_of_mem _ (List.mem_append_right _ h)), by decide, List.mem_of_getElem? (i := 1) rfl, rfl⟩
theorem fl_X2_crashAfter_121 : FL wsX2_crashAfter RX2 121 2 7 := ⟨RX2, TX2, 9, rfl, (fun _ h => List.mem_cons_of_mem _ (List.mem_append_right _ h)), by decide, List.mem_of_getElem? (i := 6) rfl, rfl⟩
set_option maxHeartbeats 4000000 in
set_option maxRecDepth 100000 in
theorem c_X2_crashAfter_dn (l : Launch) (w : Wd) (y sz : Nat) (A : Nat → Nat) (S R DB : Nat → Nat → Nat) (T : Nat → Bool) (BI : Nat → Nat → Nat) (BD : Nat → Nat → Nat → Int32) (P : Nat → Prop) (M G : Pic) (hC : CS y sz A S R DB T BI BD P M G) (n0 : Int32) (hd : A 8 = 1) : Ct l w yX2_crashAfter wsX2_crashAfter ⟨1, 0, 0, 20⟩ [.ref (y), .int (n0)] G sz (rt none G sz) := by
  refine Ct.of (cc := cX2_crashAfter) (maxL := 2) (ret := none) (L := [some (.ref (y)), some (.int (n0))]) (by decide +kernel) rfl (by simp [Value.category]) (by simp) rfl ?_
  intro p e s m args below meth c k hM
  have hab := hC.ab
  obtain ⟨hA0, hA0b, hA1, hA5, hA7, hA8⟩ := hab
  have hsz := hC.2.2.1.2
  refine V.aload_n k dX2_crashAfter_0 rfl ?_
  refine V.getf (v := .int (nI (A 8))) k dX2_crashAfter_1 fl_X2_crashAfter_50 (hC.1.1) rfl ?_
  refine V.z_ne (tgt := 16) k dX2_crashAfter_4 (by decide) (by omega) (fun hq => ?_) (fun hq => ?_)
  · exact V.vret k hM dX2_crashAfter_16 (Nat.le_of_ble_eq_true rfl) (Nat.le_of_ble_eq_true rfl) (rt_ok)
  · exact absurd hq (by omega)
set_option maxHeartbeats 4000000 in
set_option maxRecDepth 100000 in
theorem c_X2_crashAfter_up (l : Launch) (w : Wd) (y sz : Nat) (A : Nat → Nat) (S R DB : Nat → Nat → Nat) (T : Nat → Bool) (BI : Nat → Nat → Nat) (BD : Nat → Nat → Nat → Int32) (P : Nat → Prop) (M G : Pic) (hC : CS y sz A S R DB T BI BD P M G) (n0 : Int32) (hd : A 8 = 0) : Ct l w yX2_crashAfter wsX2_crashAfter ⟨1, 0, 0, 20⟩ [.ref (y), .int (n0)] G sz (rt none (gup G y (xO y (va_up A 7 (if n0 < 1 then 0 else tn n0)))) sz) := by
  refine Ct.of (cc := cX2_crashAfter) (maxL := 2) (ret := none) (L := [some (.ref (y)), some (.int (n0))]) (by decide +kernel) rfl (by simp [Value.category]) (by simp) rfl ?_
  intro p e s m args below meth c k hM
  have hab := hC.ab
  obtain ⟨hA0, hA0b, hA1, hA5, hA7, hA8⟩ := hab
  have hsz := hC.2.2.1.2
  refine V.aload_n k dX2_crashAfter_0 rfl ?_
  refine V.getf (v := .int (nI (A 8))) k dX2_crashAfter_1 fl_X2_crashAfter_50 (hC.1.1) rfl ?_
  refine V.z_ne (tgt := 16) k dX2_crashAfter_4 (by decide) (by omega) (fun hq => ?_) (fun hq => ?_)
  · exact absurd hq (by omega)
  · refine V.aload_n k dX2_crashAfter_7 rfl ?_
    refine V.iconst (v := nI 0) k dX2_crashAfter_8 (by decide) ?_
    refine V.iload_n k dX2_crashAfter_9 rfl ?_
    refine V.mmax (v := (nI (if n0 < 1 then 0 else tn n0))) k dX2_crashAfter_10 (List.mem_of_getElem? (i := 2) rfl) (List.mem_of_getElem? (i := 3) rfl) (List.mem_of_getElem? (i := 4) rfl) (List.mem_of_getElem? (i := 5) rfl) rfl (Nat.le_of_ble_eq_true rfl) (Nat.le_of_ble_eq_true rfl) (Nat.le_of_ble_eq_true rfl) (Nat.le_of_ble_eq_true rfl) (cra_eq n0) ?_
    refine V.putf (fs' := [.int (nI (A 0)), .int (nI (A 1)), .ref (y + 4), .ref (y + 7), .ref (y + 14), .int (nI (A 5)), .int (nI (A 6)), .int (nI (if n0 < 1 then 0 else tn n0)), .int (nI (A 8))]) k dX2_crashAfter_13 fl_X2_crashAfter_121 ft_X2_7 (hC.1.1) (by first | rfl | decide) rfl (Nat.le_of_ble_eq_true rfl) rfl ?_
    exact V.vret k hM dX2_crashAfter_16 (Nat.le_of_ble_eq_true rfl) (Nat.le_of_ble_eq_true rfl) (⟨rfl, rfl, rfl⟩)
theorem fl_X2_freeBlocks_42 : FL wsX2_freeBlocks RX2 42 2 3 := ⟨RX2, TX2, 9, rfl, (fun _ h => List.mem_cons_of_mem _ (List.mem_append_left _ (List.mem_append_right _ h))), by decide, List.mem_of_getElem? (i := 1) rfl, rfl⟩
theorem fl_X2_freeBlocks_124 : FL wsX2_freeBlocks RX2 124 2 5 := ⟨RX2, TX2, 9, rfl, (fun _ h => List.mem_cons_of_mem _ (List.mem_append_left _ (List.mem_append_right _ h))), by decide, List.mem_of_getElem? (i := 2) rfl, rfl⟩
theorem fl_X2_freeBlocks_18 : FL wsX2_freeBlocks RX2 18 2 0 := ⟨RX2, TX2, 9, rfl, (fun _ h => List.mem_cons_of_mem _ (List.mem_append_left _ (List.mem_append_right _ h))), by decide, List.mem_of_getElem? (i := 3) rfl, rfl⟩
theorem fl_X2_freeBlocks_118 : FL wsX2_freeBlocks RX2 118 1 3 := ⟨RX1, TX1, 5, rfl, (fun _ h => List.mem_cons_of_mem _ (List.mem_append_right _ h)), by decide, List.mem_of_getElem? (i := 4) rfl, rfl⟩
theorem fl_X2_freeBlocks_115 : FL wsX2_freeBlocks RX2 115 1 2 := ⟨RX1, TX1, 5, rfl, (fun _ h => List.mem_cons_of_mem _ (List.mem_append_right _ h)), by decide, List.mem_of_getElem? (i := 5) rfl, rfl⟩
set_option maxHeartbeats 4000000 in
set_option maxRecDepth 100000 in
theorem c_X2_freeBlocks (l : Launch) (w : Wd) (y sz : Nat) (A : Nat → Nat) (S R DB : Nat → Nat → Nat) (T : Nat → Bool) (BI : Nat → Nat → Nat) (BD : Nat → Nat → Nat → Int32) (P : Nat → Prop) (M G : Pic) (hC : CS y sz A S R DB T BI BD P M G) (hfr : 2 + S (1 + A 5) 3 + drB (S (1 + A 5) 2) ≤ A 0) (hm2 : S (1 + A 5) 2 ≤ 8) : Ct l w yX2_freeBlocks wsX2_freeBlocks ⟨1, 0, 0, 20⟩ [.ref (y)] G sz (rt (some (.int (nI (A 0 - 2 - S (1 + A 5) 3 - drB (S (1 + A 5) 2))))) G sz) := by
  refine Ct.of (cc := cX2_freeBlocks) (maxL := 2) (ret := (some .int)) (L := [some (.ref (y)), none]) (by decide +kernel) rfl (by simp [Value.category]) (by simp) rfl ?_
  intro p e s m args below meth c k hM
  have hab := hC.ab
  obtain ⟨hA0, hA0b, hA1, hA5, hA7, hA8⟩ := hab
  have hsz := hC.2.2.1.2
  refine V.aload_n k dX2_freeBlocks_0 rfl ?_
  refine V.getf (v := .ref (y + 7)) k dX2_freeBlocks_1 fl_X2_freeBlocks_42 (hC.1.1) rfl ?_
  refine V.aload_n k dX2_freeBlocks_4 rfl ?_
  refine V.getf (v := .int (nI (A 5))) k dX2_freeBlocks_5 fl_X2_freeBlocks_124 (hC.1.1) rfl ?_
  refine V.sald (b := y + 8 + 3 * A 5) k dX2_freeBlocks_8 (hC.1.2.2.2.1) rfl (by omega) (by omega) (rfl) ?_
  refine V.astore_n (L' := [some (.ref (y)), some (.ref (y + 8 + 3 * A 5))]) k dX2_freeBlocks_9 (Nat.le_of_ble_eq_true rfl) rfl ?_
  refine V.aload_n k dX2_freeBlocks_10 rfl ?_
  refine V.getf (v := .int (nI (A 0))) k dX2_freeBlocks_11 fl_X2_freeBlocks_18 (hC.1.1) rfl ?_
  refine V.iconst (v := nI 2) k dX2_freeBlocks_14 (by decide) ?_
  refine V.isub (v := (nI (A 0 - 2))) k dX2_freeBlocks_15 (pk_sub (by omega)) ?_
  refine V.aload_n k dX2_freeBlocks_16 rfl ?_
  refine V.getf (v := .int (nI (S (1 + A 5) 3))) k dX2_freeBlocks_17 fl_X2_freeBlocks_118 (hC.mas.1) rfl ?_
  refine V.isub (v := (nI ((A 0 - 2) - (S (1 + A 5) 3)))) k dX2_freeBlocks_20 (pk_sub (by omega)) ?_
  refine V.aload_n k dX2_freeBlocks_21 rfl ?_
  refine V.getf (v := .int (nI (S (1 + A 5) 2))) k dX2_freeBlocks_22 fl_X2_freeBlocks_115 (hC.mas.1) rfl ?_
  refine V.cS (As := [.int (nI (S (1 + A 5) 2))]) (st1 := [.int (nI (drB (S (1 + A 5) 2))), .int (nI ((A 0 - 2) - (S (1 + A 5) 3)))]) k dX2_freeBlocks_25 (c_X2_blocksOfDirectory l w G sz _ hm2) gX2_freeBlocks_X2_blocksOfDirectory rfl hd_X2_blocksOfDirectory ⟨⟨Nat.le_of_ble_eq_true rfl, Nat.le_of_ble_eq_true rfl⟩, Nat.le_of_ble_eq_true rfl, Nat.le_of_ble_eq_true rfl⟩ rfl rfl rfl (Nat.le_of_ble_eq_true rfl) rfl ?_
  refine V.isub (v := (nI (((A 0 - 2) - (S (1 + A 5) 3)) - (drB (S (1 + A 5) 2))))) k dX2_freeBlocks_28 (pk_sub (by omega)) ?_
  exact V.iret k hM dX2_freeBlocks_29 (Nat.le_of_ble_eq_true rfl) (Nat.le_of_ble_eq_true rfl) (rt_ok)
theorem fl_X2_free_50 : FL wsX2_free RX2 50 2 8 := ⟨RX2, TX2, 9, rfl, (fun _ h => List.mem_cons_of_mem _ (List.mem_append_left _ (List.mem_append_right _ h))), by decide, List.mem_of_getElem? (i := 1) rfl, rfl⟩
set_option maxHeartbeats 4000000 in
set_option maxRecDepth 100000 in
theorem c_X2_free_dn (l : Launch) (w : Wd) (y sz : Nat) (A : Nat → Nat) (S R DB : Nat → Nat → Nat) (T : Nat → Bool) (BI : Nat → Nat → Nat) (BD : Nat → Nat → Nat → Int32) (P : Nat → Prop) (M G : Pic) (hC : CS y sz A S R DB T BI BD P M G) (hd : A 8 = 1) : Ct l w yX2_free wsX2_free ⟨2, 0, 0, 41⟩ [.ref (y)] G sz (rt (some (.int (-2000000003))) G sz) := by
  refine Ct.of (cc := cX2_free) (maxL := 1) (ret := (some .int)) (L := [some (.ref (y))]) (by decide +kernel) rfl (by simp [Value.category]) (by simp) rfl ?_
  intro p e s m args below meth c k hM
  have hab := hC.ab
  obtain ⟨hA0, hA0b, hA1, hA5, hA7, hA8⟩ := hab
  have hsz := hC.2.2.1.2
  refine V.aload_n k dX2_free_0 rfl ?_
  refine V.getf (v := .int (nI (A 8))) k dX2_free_1 fl_X2_free_50 (hC.1.1) rfl ?_
  refine V.z_eq (tgt := 12) k dX2_free_4 (by decide) (by omega) (fun hq => ?_) (fun hq => ?_)
  · exact absurd hq (by omega)
  · refine V.ldc (v := (-2000000003)) k dX2_free_7 (List.mem_of_getElem? (i := 2) rfl) ?_
    refine V.goto (tgt := 16) k dX2_free_9 (by decide) ?_
    exact V.iret k hM dX2_free_16 (Nat.le_of_ble_eq_true rfl) (Nat.le_of_ble_eq_true rfl) (rt_ok)
set_option maxHeartbeats 4000000 in
set_option maxRecDepth 100000 in
theorem c_X2_free_up (l : Launch) (w : Wd) (y sz : Nat) (A : Nat → Nat) (S R DB : Nat → Nat → Nat) (T : Nat → Bool) (BI : Nat → Nat → Nat) (BD : Nat → Nat → Nat → Int32) (P : Nat → Prop) (M G : Pic) (hC : CS y sz A S R DB T BI BD P M G) (hfr : 2 + S (1 + A 5) 3 + drB (S (1 + A 5) 2) ≤ A 0) (hm2 : S (1 + A 5) 2 ≤ 8) (hd : A 8 = 0) : Ct l w yX2_free wsX2_free ⟨2, 0, 0, 41⟩ [.ref (y)] G sz (rt (some (.int (nI (A 0 - 2 - S (1 + A 5) 3 - drB (S (1 + A 5) 2))))) G sz) := by
  refine Ct.of (cc := cX2_free) (maxL := 1) (ret := (some .int)) (L := [some (.ref (y))]) (by decide +kernel) rfl (by simp [Value.category]) (by simp) rfl ?_
  intro p e s m args below meth c k hM
  have hab := hC.ab
  obtain ⟨hA0, hA0b, hA1, hA5, hA7, hA8⟩ := hab
  have hsz := hC.2.2.1.2
  refine V.aload_n k dX2_free_0 rfl ?_
  refine V.getf (v := .int (nI (A 8))) k dX2_free_1 fl_X2_free_50 (hC.1.1) rfl ?_
  refine V.z_eq (tgt := 12) k dX2_free_4 (by decide) (by omega) (fun hq => ?_) (fun hq => ?_)
  · refine V.aload_n k dX2_free_12 rfl ?_
    refine V.cV (As := []) (ci := 2) (st1 := [.int (nI (A 0 - 2 - S (1 + A 5) 3 - drB (S (1 + A 5) 2)))]) k dX2_free_13 (c_X2_freeBlocks l w y sz A S R DB T BI BD P M G hC hfr hm2) gX2_free_X2_freeBlocks rfl rfl (hC.1.1) ⟨rfl, hd_X2_freeBlocks⟩ ⟨⟨Nat.le_of_ble_eq_true rfl, Nat.le_of_ble_eq_true rfl⟩, Nat.le_of_ble_eq_true rfl, Nat.le_of_ble_eq_true rfl⟩ rfl rfl rfl (Nat.le_of_ble_eq_true rfl) rfl ?_
    exact V.iret k hM dX2_free_16 (Nat.le_of_ble_eq_true rfl) (Nat.le_of_ble_eq_true rfl) (rt_ok)
  · exact absurd hq (by omega)
def dif (K : Nat → Int32) (m : Int32) : Nat → Int32
  | 0 => nI 0
  | n + 1 => dif K m n ||| (mx (K n) ^^^ m)
theorem fl_X2_localDepthWithRoom_71 : FL wsX2_localDepthWithRoom RX2 71 0 3 := ⟨RX0, TX0, 5, rfl, (fun _ h => List.mem_cons_of_mem _ (List.mem_append_right _ h)), by decide, List.mem_of_getElem? (i := 1) rfl, rfl⟩
theorem fl_X2_localDepthWithRoom_141 : FL wsX2_localDepthWithRoom RX2 141 0 1 := ⟨RX0, TX0, 5, rfl, (fun _ h => List.mem_cons_of_mem _ (List.mem_append_right _ h)), by decide, List.mem_of_getElem? (i := 2) rfl, rfl⟩
set_option maxHeartbeats 4000000 in
set_option maxRecDepth 100000 in
theorem c_X2_localDepthWithRoom (l : Launch) (w : Wd) (b sz : Nat) (G : Pic) (loc cnt blk : Nat) (K U : Nat → Int32) (hB : BkAt G b loc cnt blk K U) (hc : cnt ≤ 15) (r0 : Int32) : Ct l w yX2_localDepthWithRoom wsX2_localDepthWithRoom ⟨1, 0, 0, 21⟩ [.ref (b), .int (r0)] G sz (rt (some (.int (nI (tz (tn (dif K r0 cnt)) + 1)))) G sz) := by
  refine Ct.of (cc := cX2_localDepthWithRoom) (maxL := 4) (ret := (some .int)) (L := [some (.ref (b)), some (.int (r0)), none, none]) (by decide +kernel) rfl (by simp [Value.category]) (by simp) rfl ?_
  intro p e s m args below meth c k hM
  have lp : ∀ (nq i : Nat) , i ≤ cnt → cnt - i < nq → V p l e ⟨1, 0, 0, 21⟩ s m args below meth c w G sz 0 0 (mQ w below args s ⟨1, 0, 0, 21⟩ (rt (some (.int (nI (tz (tn (dif K r0 cnt)) + 1)))) G sz)) 4 [some (.ref (b)), some (.int (r0)), some (.int (dif K r0 i)), some (.int (nI (i)))] [] := by
    intro nq
    induction nq with
    | zero => intro i  h1 h2 ; omega
    | succ nq ih =>
      intro i  h1 h2 
      refine V.iload_n k dX2_localDepthWithRoom_4 rfl ?_
      refine V.aload_n k dX2_localDepthWithRoom_5 rfl ?_
      refine V.getf (v := .int (nI (cnt))) k dX2_localDepthWithRoom_6 fl_X2_localDepthWithRoom_71 (hB.1) rfl ?_
      refine V.n_ge (tgt := 32) k dX2_localDepthWithRoom_9 (by decide) (by omega) (by omega) (fun hb => ?_) (fun hb => ?_)
      · have hi : i = cnt := by omega
        subst hi
        refine V.iload_n k dX2_localDepthWithRoom_32 rfl ?_
        refine V.cS (As := [.int (dif K r0 i)]) (st1 := [.int (nI (tz (tn (dif K r0 i))))]) k dX2_localDepthWithRoom_33 (c_J6_numberOfTrailingZeros_0f7a4 l w G sz (dif K r0 i)) gX2_localDepthWithRoom_J6_numberOfTrailingZeros_0f7a4 rfl hd_J6_numberOfTrailingZeros_0f7a4 ⟨⟨Nat.le_of_ble_eq_true rfl, Nat.le_of_ble_eq_true rfl⟩, Nat.le_of_ble_eq_true rfl, Nat.le_of_ble_eq_true rfl⟩ rfl rfl rfl (Nat.le_of_ble_eq_true rfl) rfl ?_
        refine V.iconst (v := nI 1) k dX2_localDepthWithRoom_36 (by decide) ?_
        refine V.iadd (v := (nI ((tz (tn (dif K r0 i))) + 1))) k dX2_localDepthWithRoom_37 (nI_add _ _) ?_
        exact V.iret k hM dX2_localDepthWithRoom_38 (Nat.le_of_ble_eq_true rfl) (Nat.le_of_ble_eq_true rfl) (rt_ok)
      · refine V.iload_n k dX2_localDepthWithRoom_12 rfl ?_
        refine V.aload_n k dX2_localDepthWithRoom_13 rfl ?_
        refine V.getf (v := .ref (b + 1)) k dX2_localDepthWithRoom_14 fl_X2_localDepthWithRoom_141 (hB.1) rfl ?_
        refine V.iload_n k dX2_localDepthWithRoom_17 rfl ?_
        refine V.iald (v := (K (i))) k dX2_localDepthWithRoom_18 (hB.2.1) rfl (by omega) (by omega) (rfl) ?_
        refine V.cS (As := [.int (K (i))]) (st1 := [.int (mx (K i)), .int (dif K r0 i)]) k dX2_localDepthWithRoom_19 (c_X2_mix l w G sz (K i)) gX2_localDepthWithRoom_X2_mix rfl hd_X2_mix ⟨⟨Nat.le_of_ble_eq_true rfl, Nat.le_of_ble_eq_true rfl⟩, Nat.le_of_ble_eq_true rfl, Nat.le_of_ble_eq_true rfl⟩ rfl rfl rfl (Nat.le_of_ble_eq_true rfl) rfl ?_
        refine V.iload_n k dX2_localDepthWithRoom_22 rfl ?_
        refine V.ixor (v := (mx (K i) ^^^ r0)) k dX2_localDepthWithRoom_23 (rfl) ?_
        refine V.ior (v := (dif K r0 (i + 1))) k dX2_localDepthWithRoom_24 (rfl) ?_
        refine V.istore_n (L' := [some (.ref (b)), some (.int (r0)), some (.int (dif K r0 (i + 1))), some (.int (nI (i)))]) k dX2_localDepthWithRoom_25 (Nat.le_of_ble_eq_true rfl) rfl ?_
        refine V.iinc (x := (nI (i))) (v := (nI (i + 1))) (L' := [some (.ref (b)), some (.int (r0)), some (.int (dif K r0 (i + 1))), some (.int (nI (i + 1)))]) k dX2_localDepthWithRoom_26 rfl (nI_inc1 _) rfl ?_
        refine V.goto (tgt := 4) k dX2_localDepthWithRoom_29 (by decide) ?_
        exact ih (i + 1) (by omega) (by omega)
  refine V.iconst (v := nI 0) k dX2_localDepthWithRoom_0 (by decide) ?_
  refine V.istore_n (L' := [some (.ref (b)), some (.int (r0)), some (.int (nI (0))), none]) k dX2_localDepthWithRoom_1 (Nat.le_of_ble_eq_true rfl) rfl ?_
  refine V.iconst (v := nI 0) k dX2_localDepthWithRoom_2 (by decide) ?_
  refine V.istore_n (L' := [some (.ref (b)), some (.int (r0)), some (.int (dif K r0 0)), some (.int (nI (0)))]) k dX2_localDepthWithRoom_3 (Nat.le_of_ble_eq_true rfl) rfl ?_
  exact lp (cnt + 1) 0 (by omega) (by omega)
theorem max_nI {a b : Nat} (ha : a < 2 ^ 31) (hb : b < 2 ^ 31) : (if nI a < nI b then nI b else nI a) = nI (max a b) := by
  by_cases h : a < b
  · rw [if_pos ((nI_ltI ha hb).mpr h), Nat.max_eq_right (Nat.le_of_lt h)]
  · rw [if_neg (fun q => h ((nI_ltI ha hb).mp q)), Nat.max_eq_left (by omega)]
theorem fl_X2_mayBecome_38 : FL wsX2_mayBecome RX2 38 2 2 := ⟨RX2, TX2, 9, rfl, (fun _ h => List.mem_cons_of_mem _ (List.mem_append_left _ (List.mem_append_right _ h))), by decide, List.mem_of_getElem? (i := 1) rfl, rfl⟩
theorem fl_X2_mayBecome_115 : FL wsX2_mayBecome RX2 115 1 2 := ⟨RX1, TX1, 5, rfl, (fun _ h => List.mem_cons_of_mem _ (List.mem_append_right _ h)), by decide, List.mem_of_getElem? (i := 2) rfl, rfl⟩
theorem fl_X2_mayBecome_22 : FL wsX2_mayBecome RX2 22 2 1 := ⟨RX2, TX2, 9, rfl, (fun _ h => List.mem_cons_of_mem _ (List.mem_append_left _ (List.mem_append_right _ h))), by decide, List.mem_of_getElem? (i := 7) rfl, rfl⟩
theorem fl_X2_mayBecome_118 : FL wsX2_mayBecome RX2 118 1 3 := ⟨RX1, TX1, 5, rfl, (fun _ h => List.mem_cons_of_mem _ (List.mem_append_right _ h)), by decide, List.mem_of_getElem? (i := 8) rfl, rfl⟩
theorem fl_X2_mayBecome_18 : FL wsX2_mayBecome RX2 18 2 0 := ⟨RX2, TX2, 9, rfl, (fun _ h => List.mem_cons_of_mem _ (List.mem_append_left _ (List.mem_append_right _ h))), by decide, List.mem_of_getElem? (i := 9) rfl, rfl⟩
set_option maxHeartbeats 4000000 in
set_option maxRecDepth 100000 in
theorem c_X2_mayBecome (l : Launch) (w : Wd) (y sz : Nat) (A : Nat → Nat) (S R DB : Nat → Nat → Nat) (T : Nat → Bool) (BI : Nat → Nat → Nat) (BD : Nat → Nat → Nat → Int32) (P : Nat → Prop) (M G : Pic) (hC : CS y sz A S R DB T BI BD P M G) (lc nl : Nat) (hS2 : S 0 2 ≤ A 1) (hS3 : S 0 3 ≤ 1000) (hl : lc ≤ nl) (hnl : nl ≤ 33) : Ct l w yX2_mayBecome wsX2_mayBecome ⟨1, 0, 0, 20⟩ [.ref (y), .int (nI (lc)), .int (nI (nl))] G sz (rt (some (.int (bI (decide (max (S 0 2) nl ≤ A 1 ∧ S 0 3 + nl - lc + drB (max (S 0 2) nl) ≤ A 0 - 2))))) G sz) := by
  refine Ct.of (cc := cX2_mayBecome) (maxL := 5) (ret := (some .boolean)) (L := [some (.ref (y)), some (.int (nI (lc))), some (.int (nI (nl))), none, none]) (by decide +kernel) rfl (by simp [Value.category]) (by simp) rfl ?_
  intro p e s m args below meth c k hM
  have hab := hC.ab
  obtain ⟨hA0, hA0b, hA1, hA5, hA7, hA8⟩ := hab
  have hsz := hC.2.2.1.2
  refine V.aload_n k dX2_mayBecome_0 rfl ?_
  refine V.getf (v := .ref (y + 4)) k dX2_mayBecome_1 fl_X2_mayBecome_38 (hC.1.1) rfl ?_
  refine V.getf (v := .int (nI (S 0 2))) k dX2_mayBecome_4 fl_X2_mayBecome_115 (hC.1.2.1.1) rfl ?_
  refine V.iload_n k dX2_mayBecome_7 rfl ?_
  refine V.mmax (v := (nI (max (S 0 2) nl))) k dX2_mayBecome_8 (List.mem_of_getElem? (i := 3) rfl) (List.mem_of_getElem? (i := 4) rfl) (List.mem_of_getElem? (i := 5) rfl) (List.mem_of_getElem? (i := 6) rfl) rfl (Nat.le_of_ble_eq_true rfl) (Nat.le_of_ble_eq_true rfl) (Nat.le_of_ble_eq_true rfl) (Nat.le_of_ble_eq_true rfl) (max_nI (by omega) (by omega)) ?_
  refine V.istore_n (L' := [some (.ref (y)), some (.int (nI (lc))), some (.int (nI (nl))), some (.int (nI (max (S 0 2) nl))), none]) k dX2_mayBecome_11 (Nat.le_of_ble_eq_true rfl) rfl ?_
  refine V.iload_n k dX2_mayBecome_12 rfl ?_
  refine V.aload_n k dX2_mayBecome_13 rfl ?_
  refine V.getf (v := .int (nI (A 1))) k dX2_mayBecome_14 fl_X2_mayBecome_22 (hC.1.1) rfl ?_
  refine V.n_le (tgt := 22) k dX2_mayBecome_17 (by decide) (by omega) (by omega) (fun hq => ?_) (fun hq => ?_)
  · have hdm : max (S 0 2) nl ≤ 8 := by omega
    have hdr := drB_le hdm
    refine V.aload_n k dX2_mayBecome_22 rfl ?_
    refine V.getf (v := .ref (y + 4)) k dX2_mayBecome_23 fl_X2_mayBecome_38 (hC.1.1) rfl ?_
    refine V.getf (v := .int (nI (S 0 3))) k dX2_mayBecome_26 fl_X2_mayBecome_118 (hC.1.2.1.1) rfl ?_
    refine V.iload_n k dX2_mayBecome_29 rfl ?_
    refine V.iadd (v := (nI ((S 0 3) + nl))) k dX2_mayBecome_30 (nI_add _ _) ?_
    refine V.iload_n k dX2_mayBecome_31 rfl ?_
    refine V.isub (v := (nI (((S 0 3) + nl) - lc))) k dX2_mayBecome_32 (pk_sub (by omega)) ?_
    refine V.istore (L' := [some (.ref (y)), some (.int (nI (lc))), some (.int (nI (nl))), some (.int (nI (max (S 0 2) nl))), some (.int (nI (((S 0 3) + nl) - lc)))]) k dX2_mayBecome_33 (Nat.le_of_ble_eq_true rfl) rfl ?_
    refine V.iload k dX2_mayBecome_35 rfl ?_
    refine V.iload_n k dX2_mayBecome_37 rfl ?_
    refine V.cS (As := [.int (nI (max (S 0 2) nl))]) (st1 := [.int (nI (drB (max (S 0 2) nl))), .int (nI (((S 0 3) + nl) - lc))]) k dX2_mayBecome_38 (c_X2_blocksOfDirectory l w G sz _ hdm) gX2_mayBecome_X2_blocksOfDirectory rfl hd_X2_blocksOfDirectory ⟨⟨Nat.le_of_ble_eq_true rfl, Nat.le_of_ble_eq_true rfl⟩, Nat.le_of_ble_eq_true rfl, Nat.le_of_ble_eq_true rfl⟩ rfl rfl rfl (Nat.le_of_ble_eq_true rfl) rfl ?_
    refine V.iadd (v := (nI ((((S 0 3) + nl) - lc) + (drB (max (S 0 2) nl))))) k dX2_mayBecome_41 (nI_add _ _) ?_
    refine V.aload_n k dX2_mayBecome_42 rfl ?_
    refine V.getf (v := .int (nI (A 0))) k dX2_mayBecome_43 fl_X2_mayBecome_18 (hC.1.1) rfl ?_
    refine V.iconst (v := nI 2) k dX2_mayBecome_46 (by decide) ?_
    refine V.isub (v := (nI (A 0 - 2))) k dX2_mayBecome_47 (pk_sub (by omega)) ?_
    refine V.n_gt (tgt := 55) k dX2_mayBecome_48 (by decide) (by omega) (by omega) (fun hr => ?_) (fun hr => ?_)
    · rw [show decide (_ ∧ _) = false from decide_eq_false (fun q => absurd q.2 (by omega))]
      refine V.iconst (v := nI 0) k dX2_mayBecome_55 (by decide) ?_
      exact V.zret k hM dX2_mayBecome_56 (by first | rfl | decide) (Nat.le_of_ble_eq_true rfl) (Nat.le_of_ble_eq_true rfl) (rt_ok)
    · rw [show decide (_ ∧ _) = true from decide_eq_true ⟨hq, by omega⟩]
      refine V.iconst (v := nI 1) k dX2_mayBecome_51 (by decide) ?_
      refine V.goto (tgt := 56) k dX2_mayBecome_52 (by decide) ?_
      exact V.zret k hM dX2_mayBecome_56 (by first | rfl | decide) (Nat.le_of_ble_eq_true rfl) (Nat.le_of_ble_eq_true rfl) (rt_ok)
  · rw [show decide (_ ∧ _) = false from decide_eq_false (fun q => absurd q.1 (by omega))]
    refine V.iconst (v := nI 0) k dX2_mayBecome_20 (by decide) ?_
    exact V.zret k hM dX2_mayBecome_21 (by first | rfl | decide) (Nat.le_of_ble_eq_true rfl) (Nat.le_of_ble_eq_true rfl) (rt_ok)
