theorem va_up_id {α : Type} {F : Nat → α} {i : Nat} {v : α} (h : F i = v) : va_up F i v = F := by
  funext j
  unfold va_up
  by_cases hj : j = i
  · rw [if_pos hj, hj, h]
  · rw [if_neg hj]
/-- the place of a key, or the number of the keys -/
def fp (F : Nat → Nat) (K : Nat → Nat → Int32) (k : Int32) : Nat := fnd (K 0) k (F 5) 0
def ansGet (F : Nat → Nat) (K : Nat → Nat → Int32) (k : Int32) : Int32 := if F 18 = 0 then (if fp F K k < F 5 then K 1 (fp F K k) else nI 0) else (-2000000003)
def ansHas (F : Nat → Nat) (K : Nat → Nat → Int32) (k : Int32) : Bool := decide (F 18 = 0 ∧ fp F K k < F 5)
def dwn (F : Nat → Nat) (n : Nat) : Int32 := if F 18 = 0 then nI n else (-2000000003)
theorem fl_X3_get_48 : FL wsX3_get RX3 48 3 0 := ⟨RX3, TX3, 21, rfl, (fun _ h => List.mem_cons_of_mem _ (List.mem_append_right _ h)), by decide, List.mem_of_getElem? (i := 1) rfl, rfl⟩
theorem fl_X3_get_87 : FL wsX3_get RX3 87 3 18 := ⟨RX3, TX3, 21, rfl, (fun _ h => List.mem_cons_of_mem _ (List.mem_append_right _ h)), by decide, List.mem_of_getElem? (i := 2) rfl, rfl⟩
theorem fl_X3_get_13 : FL wsX3_get RX3 13 3 4 := ⟨RX3, TX3, 21, rfl, (fun _ h => List.mem_cons_of_mem _ (List.mem_append_right _ h)), by decide, List.mem_of_getElem? (i := 4) rfl, rfl⟩
set_option maxHeartbeats 4000000 in
set_option maxRecDepth 100000 in
theorem c_X3_get (l : Launch) (w : Wd) (y sz : Nat) (F : Nat → Nat) (K : Nat → Nat → Int32) (N : Nat → Nat → Nat) (Z : Nat → Nat → Bool) (G0 : Pic) (k0 : Int32) (hn : F 5 ≤ 3100) (hF0 : F 0 = 0) (hdn : F 18 ≤ 1) : Ct l w yX3_get wsX3_get ⟨1, 0, 0, 22⟩ [.ref (y), .int (k0)] (mset y F K N Z G0) sz (rt (some (.int (ansGet F K k0))) (mset y F K N Z G0) sz) := by
  refine Ct.of (cc := cX3_get) (maxL := 3) (ret := (some .int)) (L := [some (.ref (y)), some (.int (k0)), none]) (by decide +kernel) rfl (by simp [Value.category]) (by simp) rfl ?_
  intro p e s m args below meth c k hM
  refine V.aload_n k dX3_get_0 rfl ?_
  refine V.iconst (v := nI 0) k dX3_get_1 (by decide) ?_
  refine V.putf (fs' := mF y (va_up F 0 (0))) k dX3_get_2 fl_X3_get_48 ft_X3_0 (ms_o y F K N Z G0) (by first | rfl | decide) rfl (Nat.le_of_ble_eq_true rfl) (by simp [va_up]) ?_
  refine V.pic (msF y F K N Z G0 (va_up F 0 (0))) ?_
  refine V.pic (by rw [va_up_id hF0]) ?_
  refine V.aload_n k dX3_get_5 rfl ?_
  refine V.iload_n k dX3_get_6 rfl ?_
  refine V.cV (As := [.int (k0)]) (ci := 3) (st1 := [.int (if fnd (K 0) k0 (F 5) 0 < F 5 then nI (fnd (K 0) k0 (F 5) 0) else (-1))]) k dX3_get_7 (c_X3_find l w y sz F K N Z G0 k0 hn) gX3_get_X3_find rfl rfl (ms_o y F K N Z G0) ⟨rfl, hd_X3_find⟩ ⟨⟨Nat.le_of_ble_eq_true rfl, Nat.le_of_ble_eq_true rfl⟩, Nat.le_of_ble_eq_true rfl, Nat.le_of_ble_eq_true rfl⟩ rfl rfl rfl (Nat.le_of_ble_eq_true rfl) rfl ?_
  refine V.istore_n (L' := [some (.ref (y)), some (.int (k0)), some (.int (if fnd (K 0) k0 (F 5) 0 < F 5 then nI (fnd (K 0) k0 (F 5) 0) else (-1)))]) k dX3_get_10 (Nat.le_of_ble_eq_true rfl) rfl ?_
  refine V.aload_n k dX3_get_11 rfl ?_
  refine V.getf (v := .int (nI (F 18))) k dX3_get_12 fl_X3_get_87 (ms_o y F K N Z G0) rfl ?_
  refine V.z_eq (tgt := 23) k dX3_get_15 (by decide) (by omega) (fun hd => ?_) (fun hd => ?_)
  · have ha : ansGet F K k0 = if fnd (K 0) k0 (F 5) 0 < F 5 then K 1 (fnd (K 0) k0 (F 5) 0) else nI 0 := by unfold ansGet fp; rw [if_pos hd]
    rw [ha]
    by_cases hA : fnd (K 0) k0 (F 5) 0 < F 5
    · simp only [if_pos hA]
      refine V.iload_n k dX3_get_23 rfl ?_
      refine V.z_ge (tgt := 31) k dX3_get_24 (by decide) (by omega) (fun h9 => ?_) (fun h9 => ?_)
      · refine V.aload_n k dX3_get_31 rfl ?_
        refine V.getf (v := .ref (y + 2)) k dX3_get_32 fl_X3_get_13 (ms_o y F K N Z G0) rfl ?_
        refine V.iload_n k dX3_get_35 rfl ?_
        refine V.iald (v := (K 1 (fnd (K 0) k0 (F 5) 0))) k dX3_get_36 (ms_2 y F K N Z G0) rfl (by omega) (by omega) (rfl) ?_
        exact V.iret k hM dX3_get_37 (Nat.le_of_ble_eq_true rfl) (Nat.le_of_ble_eq_true rfl) (rt_ok)
      · exact h9.elim
    · simp only [if_neg hA]
      refine V.iload_n k dX3_get_23 rfl ?_
      refine V.if_ge (tgt := 31) k dX3_get_24 (by decide) (fun h9 => ?_) (fun h9 => ?_)
      · exact absurd h9 (by decide)
      · refine V.iconst (v := nI 0) k dX3_get_27 (by decide) ?_
        refine V.goto (tgt := 37) k dX3_get_28 (by decide) ?_
        exact V.iret k hM dX3_get_37 (Nat.le_of_ble_eq_true rfl) (Nat.le_of_ble_eq_true rfl) (rt_ok)
  · refine V.ldc (v := (-2000000003)) k dX3_get_18 (List.mem_of_getElem? (i := 3) rfl) ?_
    refine V.goto (tgt := 37) k dX3_get_20 (by decide) ?_
    have ha : ansGet F K k0 = (-2000000003) := by unfold ansGet; rw [if_neg (by omega)]
    rw [ha]
    exact V.iret k hM dX3_get_37 (Nat.le_of_ble_eq_true rfl) (Nat.le_of_ble_eq_true rfl) (rt_ok)
theorem fl_X3_has_48 : FL wsX3_has RX3 48 3 0 := ⟨RX3, TX3, 21, rfl, (fun _ h => List.mem_cons_of_mem _ (List.mem_append_right _ h)), by decide, List.mem_of_getElem? (i := 1) rfl, rfl⟩
theorem fl_X3_has_87 : FL wsX3_has RX3 87 3 18 := ⟨RX3, TX3, 21, rfl, (fun _ h => List.mem_cons_of_mem _ (List.mem_append_right _ h)), by decide, List.mem_of_getElem? (i := 2) rfl, rfl⟩
set_option maxHeartbeats 4000000 in
set_option maxRecDepth 100000 in
theorem c_X3_has (l : Launch) (w : Wd) (y sz : Nat) (F : Nat → Nat) (K : Nat → Nat → Int32) (N : Nat → Nat → Nat) (Z : Nat → Nat → Bool) (G0 : Pic) (k0 : Int32) (hn : F 5 ≤ 3100) (hF0 : F 0 = 0) (hdn : F 18 ≤ 1) : Ct l w yX3_has wsX3_has ⟨1, 0, 0, 22⟩ [.ref (y), .int (k0)] (mset y F K N Z G0) sz (rt (some (.int (bI (ansHas F K k0)))) (mset y F K N Z G0) sz) := by
  refine Ct.of (cc := cX3_has) (maxL := 2) (ret := (some .boolean)) (L := [some (.ref (y)), some (.int (k0))]) (by decide +kernel) rfl (by simp [Value.category]) (by simp) rfl ?_
  intro p e s m args below meth c k hM
  refine V.aload_n k dX3_has_0 rfl ?_
  refine V.iconst (v := nI 0) k dX3_has_1 (by decide) ?_
  refine V.putf (fs' := mF y (va_up F 0 (0))) k dX3_has_2 fl_X3_has_48 ft_X3_0 (ms_o y F K N Z G0) (by first | rfl | decide) rfl (Nat.le_of_ble_eq_true rfl) (by simp [va_up]) ?_
  refine V.pic (msF y F K N Z G0 (va_up F 0 (0))) ?_
  refine V.pic (by rw [va_up_id hF0]) ?_
  refine V.aload_n k dX3_has_5 rfl ?_
  refine V.getf (v := .int (nI (F 18))) k dX3_has_6 fl_X3_has_87 (ms_o y F K N Z G0) rfl ?_
  refine V.z_ne (tgt := 24) k dX3_has_9 (by decide) (by omega) (fun hd => ?_) (fun hd => ?_)
  · refine V.iconst (v := nI 0) k dX3_has_24 (by decide) ?_
    have ha : ansHas F K k0 = false := by unfold ansHas; exact decide_eq_false (by omega)
    rw [ha]
    exact V.zret k hM dX3_has_25 (by first | rfl | decide) (Nat.le_of_ble_eq_true rfl) (Nat.le_of_ble_eq_true rfl) (rt_ok)
  · refine V.aload_n k dX3_has_12 rfl ?_
    refine V.iload_n k dX3_has_13 rfl ?_
    refine V.cV (As := [.int (k0)]) (ci := 3) (st1 := [.int (if fnd (K 0) k0 (F 5) 0 < F 5 then nI (fnd (K 0) k0 (F 5) 0) else (-1))]) k dX3_has_14 (c_X3_find l w y sz F K N Z G0 k0 hn) gX3_has_X3_find rfl rfl (ms_o y F K N Z G0) ⟨rfl, hd_X3_find⟩ ⟨⟨Nat.le_of_ble_eq_true rfl, Nat.le_of_ble_eq_true rfl⟩, Nat.le_of_ble_eq_true rfl, Nat.le_of_ble_eq_true rfl⟩ rfl rfl rfl (Nat.le_of_ble_eq_true rfl) rfl ?_
    by_cases hA : fnd (K 0) k0 (F 5) 0 < F 5
    · have ha : ansHas F K k0 = true := by unfold ansHas; exact decide_eq_true ⟨hd, hA⟩
      rw [ha]
      simp only [if_pos hA]
      refine V.z_lt (tgt := 24) k dX3_has_17 (by decide) (by omega) (fun h9 => ?_) (fun h9 => ?_)
      · exact h9.elim
      · refine V.iconst (v := nI 1) k dX3_has_20 (by decide) ?_
        refine V.goto (tgt := 25) k dX3_has_21 (by decide) ?_
        exact V.zret k hM dX3_has_25 (by first | rfl | decide) (Nat.le_of_ble_eq_true rfl) (Nat.le_of_ble_eq_true rfl) (rt_ok)
    · have ha : ansHas F K k0 = false := by unfold ansHas; exact decide_eq_false (fun q => hA q.2)
      rw [ha]
      simp only [if_neg hA]
      refine V.if_lt (tgt := 24) k dX3_has_17 (by decide) (fun h9 => ?_) (fun h9 => ?_)
      · refine V.iconst (v := nI 0) k dX3_has_24 (by decide) ?_
        exact V.zret k hM dX3_has_25 (by first | rfl | decide) (Nat.le_of_ble_eq_true rfl) (Nat.le_of_ble_eq_true rfl) (rt_ok)
      · exact absurd (by decide) h9
theorem fl_X3_size_48 : FL wsX3_size RX3 48 3 0 := ⟨RX3, TX3, 21, rfl, (fun _ h => List.mem_cons_of_mem _ (List.mem_append_right _ h)), by decide, List.mem_of_getElem? (i := 1) rfl, rfl⟩
theorem fl_X3_size_87 : FL wsX3_size RX3 87 3 18 := ⟨RX3, TX3, 21, rfl, (fun _ h => List.mem_cons_of_mem _ (List.mem_append_right _ h)), by decide, List.mem_of_getElem? (i := 2) rfl, rfl⟩
theorem fl_X3_size_63 : FL wsX3_size RX3 63 3 5 := ⟨RX3, TX3, 21, rfl, (fun _ h => List.mem_cons_of_mem _ (List.mem_append_right _ h)), by decide, List.mem_of_getElem? (i := 4) rfl, rfl⟩
set_option maxHeartbeats 4000000 in
set_option maxRecDepth 100000 in
theorem c_X3_size (l : Launch) (w : Wd) (y sz : Nat) (F : Nat → Nat) (K : Nat → Nat → Int32) (N : Nat → Nat → Nat) (Z : Nat → Nat → Bool) (G0 : Pic) (hF0 : F 0 = 0) (hdn : F 18 ≤ 1) : Ct l w yX3_size wsX3_size ⟨0, 0, 0, 0⟩ [.ref (y)] (mset y F K N Z G0) sz (rt (some (.int (dwn F (F 5)))) (mset y F K N Z G0) sz) := by
  refine Ct.of (cc := cX3_size) (maxL := 1) (ret := (some .int)) (L := [some (.ref (y))]) (by decide +kernel) rfl (by simp [Value.category]) (by simp) rfl ?_
  intro p e s m args below meth c k hM
  refine V.aload_n k dX3_size_0 rfl ?_
  refine V.iconst (v := nI 0) k dX3_size_1 (by decide) ?_
  refine V.putf (fs' := mF y (va_up F 0 (0))) k dX3_size_2 fl_X3_size_48 ft_X3_0 (ms_o y F K N Z G0) (by first | rfl | decide) rfl (Nat.le_of_ble_eq_true rfl) (by simp [va_up]) ?_
  refine V.pic (msF y F K N Z G0 (va_up F 0 (0))) ?_
  refine V.pic (by rw [va_up_id hF0]) ?_
  refine V.aload_n k dX3_size_5 rfl ?_
  refine V.getf (v := .int (nI (F 18))) k dX3_size_6 fl_X3_size_87 (ms_o y F K N Z G0) rfl ?_
  refine V.z_eq (tgt := 17) k dX3_size_9 (by decide) (by omega) (fun hd => ?_) (fun hd => ?_)
  · refine V.aload_n k dX3_size_17 rfl ?_
    refine V.getf (v := .int (nI (F 5))) k dX3_size_18 fl_X3_size_63 (ms_o y F K N Z G0) rfl ?_
    rw [show dwn F (F 5) = nI (F 5) by unfold dwn; rw [if_pos hd]]
    exact V.iret k hM dX3_size_21 (Nat.le_of_ble_eq_true rfl) (Nat.le_of_ble_eq_true rfl) (rt_ok)
  · refine V.ldc (v := (-2000000003)) k dX3_size_12 (List.mem_of_getElem? (i := 3) rfl) ?_
    refine V.goto (tgt := 21) k dX3_size_14 (by decide) ?_
    rw [show dwn F (F 5) = (-2000000003) by unfold dwn; rw [if_neg (by omega)]]
    exact V.iret k hM dX3_size_21 (Nat.le_of_ble_eq_true rfl) (Nat.le_of_ble_eq_true rfl) (rt_ok)
theorem fl_X3_depth_48 : FL wsX3_depth RX3 48 3 0 := ⟨RX3, TX3, 21, rfl, (fun _ h => List.mem_cons_of_mem _ (List.mem_append_right _ h)), by decide, List.mem_of_getElem? (i := 1) rfl, rfl⟩
theorem fl_X3_depth_87 : FL wsX3_depth RX3 87 3 18 := ⟨RX3, TX3, 21, rfl, (fun _ h => List.mem_cons_of_mem _ (List.mem_append_right _ h)), by decide, List.mem_of_getElem? (i := 2) rfl, rfl⟩
theorem fl_X3_depth_56 : FL wsX3_depth RX3 56 3 6 := ⟨RX3, TX3, 21, rfl, (fun _ h => List.mem_cons_of_mem _ (List.mem_append_right _ h)), by decide, List.mem_of_getElem? (i := 4) rfl, rfl⟩
set_option maxHeartbeats 4000000 in
set_option maxRecDepth 100000 in
theorem c_X3_depth (l : Launch) (w : Wd) (y sz : Nat) (F : Nat → Nat) (K : Nat → Nat → Int32) (N : Nat → Nat → Nat) (Z : Nat → Nat → Bool) (G0 : Pic) (hF0 : F 0 = 0) (hdn : F 18 ≤ 1) : Ct l w yX3_depth wsX3_depth ⟨0, 0, 0, 0⟩ [.ref (y)] (mset y F K N Z G0) sz (rt (some (.int (dwn F (F 6)))) (mset y F K N Z G0) sz) := by
  refine Ct.of (cc := cX3_depth) (maxL := 1) (ret := (some .int)) (L := [some (.ref (y))]) (by decide +kernel) rfl (by simp [Value.category]) (by simp) rfl ?_
  intro p e s m args below meth c k hM
  refine V.aload_n k dX3_depth_0 rfl ?_
  refine V.iconst (v := nI 0) k dX3_depth_1 (by decide) ?_
  refine V.putf (fs' := mF y (va_up F 0 (0))) k dX3_depth_2 fl_X3_depth_48 ft_X3_0 (ms_o y F K N Z G0) (by first | rfl | decide) rfl (Nat.le_of_ble_eq_true rfl) (by simp [va_up]) ?_
  refine V.pic (msF y F K N Z G0 (va_up F 0 (0))) ?_
  refine V.pic (by rw [va_up_id hF0]) ?_
  refine V.aload_n k dX3_depth_5 rfl ?_
  refine V.getf (v := .int (nI (F 18))) k dX3_depth_6 fl_X3_depth_87 (ms_o y F K N Z G0) rfl ?_
  refine V.z_eq (tgt := 17) k dX3_depth_9 (by decide) (by omega) (fun hd => ?_) (fun hd => ?_)
  · refine V.aload_n k dX3_depth_17 rfl ?_
    refine V.getf (v := .int (nI (F 6))) k dX3_depth_18 fl_X3_depth_56 (ms_o y F K N Z G0) rfl ?_
    rw [show dwn F (F 6) = nI (F 6) by unfold dwn; rw [if_pos hd]]
    exact V.iret k hM dX3_depth_21 (Nat.le_of_ble_eq_true rfl) (Nat.le_of_ble_eq_true rfl) (rt_ok)
  · refine V.ldc (v := (-2000000003)) k dX3_depth_12 (List.mem_of_getElem? (i := 3) rfl) ?_
    refine V.goto (tgt := 21) k dX3_depth_14 (by decide) ?_
    rw [show dwn F (F 6) = (-2000000003) by unfold dwn; rw [if_neg (by omega)]]
    exact V.iret k hM dX3_depth_21 (Nat.le_of_ble_eq_true rfl) (Nat.le_of_ble_eq_true rfl) (rt_ok)
theorem fl_X3_buckets_48 : FL wsX3_buckets RX3 48 3 0 := ⟨RX3, TX3, 21, rfl, (fun _ h => List.mem_cons_of_mem _ (List.mem_append_right _ h)), by decide, List.mem_of_getElem? (i := 1) rfl, rfl⟩
theorem fl_X3_buckets_87 : FL wsX3_buckets RX3 87 3 18 := ⟨RX3, TX3, 21, rfl, (fun _ h => List.mem_cons_of_mem _ (List.mem_append_right _ h)), by decide, List.mem_of_getElem? (i := 2) rfl, rfl⟩
set_option maxHeartbeats 4000000 in
set_option maxRecDepth 100000 in
theorem c_X3_buckets (l : Launch) (w : Wd) (y sz : Nat) (F : Nat → Nat) (K : Nat → Nat → Int32) (N : Nat → Nat → Nat) (Z : Nat → Nat → Bool) (G0 : Pic) (hF0 : F 0 = 0) (hdn : F 18 ≤ 1) (hd6 : F 6 ≤ 8) (hl : ∀ e, e < 2 ^ F 6 → N 0 e ≤ 30) : Ct l w yX3_buckets wsX3_buckets ⟨3, 0, 0, 64⟩ [.ref (y)] (mset y F K N Z G0) sz (rt (some (.int (dwn F (cntF (N 0) (2 ^ F 6))))) (mset y F K N Z G0) sz) := by
  refine Ct.of (cc := cX3_buckets) (maxL := 1) (ret := (some .int)) (L := [some (.ref (y))]) (by decide +kernel) rfl (by simp [Value.category]) (by simp) rfl ?_
  intro p e s m args below meth c k hM
  refine V.aload_n k dX3_buckets_0 rfl ?_
  refine V.iconst (v := nI 0) k dX3_buckets_1 (by decide) ?_
  refine V.putf (fs' := mF y (va_up F 0 (0))) k dX3_buckets_2 fl_X3_buckets_48 ft_X3_0 (ms_o y F K N Z G0) (by first | rfl | decide) rfl (Nat.le_of_ble_eq_true rfl) (by simp [va_up]) ?_
  refine V.pic (msF y F K N Z G0 (va_up F 0 (0))) ?_
  refine V.pic (by rw [va_up_id hF0]) ?_
  refine V.aload_n k dX3_buckets_5 rfl ?_
  refine V.getf (v := .int (nI (F 18))) k dX3_buckets_6 fl_X3_buckets_87 (ms_o y F K N Z G0) rfl ?_
  refine V.z_eq (tgt := 17) k dX3_buckets_9 (by decide) (by omega) (fun hd => ?_) (fun hd => ?_)
  · refine V.aload_n k dX3_buckets_17 rfl ?_
    refine V.cV (As := []) (ci := 3) (st1 := [.int (nI (cntF (N 0) (2 ^ F 6)))]) k dX3_buckets_18 (c_X3_count l w y sz F K N Z G0 hd6 hl) gX3_buckets_X3_count rfl rfl (ms_o y F K N Z G0) ⟨rfl, hd_X3_count⟩ ⟨⟨Nat.le_of_ble_eq_true rfl, Nat.le_of_ble_eq_true rfl⟩, Nat.le_of_ble_eq_true rfl, Nat.le_of_ble_eq_true rfl⟩ rfl rfl rfl (Nat.le_of_ble_eq_true rfl) rfl ?_
    rw [show dwn F (cntF (N 0) (2 ^ F 6)) = nI (cntF (N 0) (2 ^ F 6)) by unfold dwn; rw [if_pos hd]]
    exact V.iret k hM dX3_buckets_21 (Nat.le_of_ble_eq_true rfl) (Nat.le_of_ble_eq_true rfl) (rt_ok)
  · refine V.ldc (v := (-2000000003)) k dX3_buckets_12 (List.mem_of_getElem? (i := 3) rfl) ?_
    refine V.goto (tgt := 21) k dX3_buckets_14 (by decide) ?_
    rw [show dwn F (cntF (N 0) (2 ^ F 6)) = (-2000000003) by unfold dwn; rw [if_neg (by omega)]]
    exact V.iret k hM dX3_buckets_21 (Nat.le_of_ble_eq_true rfl) (Nat.le_of_ble_eq_true rfl) (rt_ok)
theorem fl_X3_free_48 : FL wsX3_free RX3 48 3 0 := ⟨RX3, TX3, 21, rfl, (fun _ h => List.mem_cons_of_mem _ (List.mem_append_right _ h)), by decide, List.mem_of_getElem? (i := 1) rfl, rfl⟩
theorem fl_X3_free_87 : FL wsX3_free RX3 87 3 18 := ⟨RX3, TX3, 21, rfl, (fun _ h => List.mem_cons_of_mem _ (List.mem_append_right _ h)), by decide, List.mem_of_getElem? (i := 2) rfl, rfl⟩
set_option maxHeartbeats 4000000 in
set_option maxRecDepth 100000 in
theorem c_X3_free (l : Launch) (w : Wd) (y sz : Nat) (F : Nat → Nat) (K : Nat → Nat → Int32) (N : Nat → Nat → Nat) (Z : Nat → Nat → Bool) (G0 : Pic) (hF0 : F 0 = 0) (hdn : F 18 ≤ 1) (hB : 8 ≤ F 1) (hB2 : F 1 ≤ 200) : Ct l w yX3_free wsX3_free ⟨1, 0, 0, 22⟩ [.ref (y)] (mset y F K N Z G0) sz (rt (some (.int (dwn F (cntE (Z 0) (F 1 - 2))))) (mset y F K N Z G0) sz) := by
  refine Ct.of (cc := cX3_free) (maxL := 1) (ret := (some .int)) (L := [some (.ref (y))]) (by decide +kernel) rfl (by simp [Value.category]) (by simp) rfl ?_
  intro p e s m args below meth c k hM
  refine V.aload_n k dX3_free_0 rfl ?_
  refine V.iconst (v := nI 0) k dX3_free_1 (by decide) ?_
  refine V.putf (fs' := mF y (va_up F 0 (0))) k dX3_free_2 fl_X3_free_48 ft_X3_0 (ms_o y F K N Z G0) (by first | rfl | decide) rfl (Nat.le_of_ble_eq_true rfl) (by simp [va_up]) ?_
  refine V.pic (msF y F K N Z G0 (va_up F 0 (0))) ?_
  refine V.pic (by rw [va_up_id hF0]) ?_
  refine V.aload_n k dX3_free_5 rfl ?_
  refine V.getf (v := .int (nI (F 18))) k dX3_free_6 fl_X3_free_87 (ms_o y F K N Z G0) rfl ?_
  refine V.z_eq (tgt := 17) k dX3_free_9 (by decide) (by omega) (fun hd => ?_) (fun hd => ?_)
  · refine V.aload_n k dX3_free_17 rfl ?_
    refine V.cV (As := []) (ci := 3) (st1 := [.int (nI (cntE (Z 0) (F 1 - 2)))]) k dX3_free_18 (c_X3_freeCount l w y sz F K N Z G0 hB hB2) gX3_free_X3_freeCount rfl rfl (ms_o y F K N Z G0) ⟨rfl, hd_X3_freeCount⟩ ⟨⟨Nat.le_of_ble_eq_true rfl, Nat.le_of_ble_eq_true rfl⟩, Nat.le_of_ble_eq_true rfl, Nat.le_of_ble_eq_true rfl⟩ rfl rfl rfl (Nat.le_of_ble_eq_true rfl) rfl ?_
    rw [show dwn F (cntE (Z 0) (F 1 - 2)) = nI (cntE (Z 0) (F 1 - 2)) by unfold dwn; rw [if_pos hd]]
    exact V.iret k hM dX3_free_21 (Nat.le_of_ble_eq_true rfl) (Nat.le_of_ble_eq_true rfl) (rt_ok)
  · refine V.ldc (v := (-2000000003)) k dX3_free_12 (List.mem_of_getElem? (i := 3) rfl) ?_
    refine V.goto (tgt := 21) k dX3_free_14 (by decide) ?_
    rw [show dwn F (cntE (Z 0) (F 1 - 2)) = (-2000000003) by unfold dwn; rw [if_neg (by omega)]]
    exact V.iret k hM dX3_free_21 (Nat.le_of_ble_eq_true rfl) (Nat.le_of_ble_eq_true rfl) (rt_ok)
theorem fl_X3_writes_48 : FL wsX3_writes RX3 48 3 0 := ⟨RX3, TX3, 21, rfl, (fun _ h => List.mem_cons_of_mem _ (List.mem_append_right _ h)), by decide, List.mem_of_getElem? (i := 1) rfl, rfl⟩
theorem fl_X3_writes_122 : FL wsX3_writes RX3 122 3 20 := ⟨RX3, TX3, 21, rfl, (fun _ h => List.mem_cons_of_mem _ (List.mem_append_right _ h)), by decide, List.mem_of_getElem? (i := 2) rfl, rfl⟩
set_option maxHeartbeats 4000000 in
set_option maxRecDepth 100000 in
theorem c_X3_writes (l : Launch) (w : Wd) (y sz : Nat) (F : Nat → Nat) (K : Nat → Nat → Int32) (N : Nat → Nat → Nat) (Z : Nat → Nat → Bool) (G0 : Pic) (hF0 : F 0 = 0) : Ct l w yX3_writes wsX3_writes ⟨0, 0, 0, 0⟩ [.ref (y)] (mset y F K N Z G0) sz (rt (some (.int (nI (F 20)))) (mset y F K N Z G0) sz) := by
  refine Ct.of (cc := cX3_writes) (maxL := 1) (ret := (some .int)) (L := [some (.ref (y))]) (by decide +kernel) rfl (by simp [Value.category]) (by simp) rfl ?_
  intro p e s m args below meth c k hM
  refine V.aload_n k dX3_writes_0 rfl ?_
  refine V.iconst (v := nI 0) k dX3_writes_1 (by decide) ?_
  refine V.putf (fs' := mF y (va_up F 0 (0))) k dX3_writes_2 fl_X3_writes_48 ft_X3_0 (ms_o y F K N Z G0) (by first | rfl | decide) rfl (Nat.le_of_ble_eq_true rfl) (by simp [va_up]) ?_
  refine V.pic (msF y F K N Z G0 (va_up F 0 (0))) ?_
  refine V.pic (by rw [va_up_id hF0]) ?_
  refine V.aload_n k dX3_writes_5 rfl ?_
  refine V.getf (v := .int (nI (F 20))) k dX3_writes_6 fl_X3_writes_122 (ms_o y F K N Z G0) rfl ?_
  exact V.iret k hM dX3_writes_9 (Nat.le_of_ble_eq_true rfl) (Nat.le_of_ble_eq_true rfl) (rt_ok)
def crN (F : Nat → Nat) (n : Int32) : Nat := if F 18 = 0 then (if n < 1 then 0 else tn n) else F 19
theorem nI_tn (n : Int32) : nI (tn n) = n := by
  unfold nI tn
  simp
theorem fl_X3_crashAfter_48 : FL wsX3_crashAfter RX3 48 3 0 := ⟨RX3, TX3, 21, rfl, (fun _ h => List.mem_cons_of_mem _ (List.mem_append_right _ h)), by decide, List.mem_of_getElem? (i := 1) rfl, rfl⟩
theorem fl_X3_crashAfter_87 : FL wsX3_crashAfter RX3 87 3 18 := ⟨RX3, TX3, 21, rfl, (fun _ h => List.mem_cons_of_mem _ (List.mem_append_right _ h)), by decide, List.mem_of_getElem? (i := 2) rfl, rfl⟩
theorem fl_X3_crashAfter_119 : FL wsX3_crashAfter RX3 119 3 19 := ⟨RX3, TX3, 21, rfl, (fun _ h => List.mem_cons_of_mem _ (List.mem_append_right _ h)), by decide, List.mem_of_getElem? (i := 3) rfl, rfl⟩
set_option maxHeartbeats 4000000 in
set_option maxRecDepth 100000 in
theorem c_X3_crashAfter (l : Launch) (w : Wd) (y sz : Nat) (F : Nat → Nat) (K : Nat → Nat → Int32) (N : Nat → Nat → Nat) (Z : Nat → Nat → Bool) (G0 : Pic) (n0 : Int32) (hF0 : F 0 = 0) (hdn : F 18 ≤ 1) : Ct l w yX3_crashAfter wsX3_crashAfter ⟨0, 0, 0, 0⟩ [.ref (y), .int (n0)] (mset y F K N Z G0) sz (rt none (mset y (va_up F 19 (crN F n0)) K N Z G0) sz) := by
  refine Ct.of (cc := cX3_crashAfter) (maxL := 2) (ret := none) (L := [some (.ref (y)), some (.int (n0))]) (by decide +kernel) rfl (by simp [Value.category]) (by simp) rfl ?_
  intro p e s m args below meth c k hM
  refine V.aload_n k dX3_crashAfter_0 rfl ?_
  refine V.iconst (v := nI 0) k dX3_crashAfter_1 (by decide) ?_
  refine V.putf (fs' := mF y (va_up F 0 (0))) k dX3_crashAfter_2 fl_X3_crashAfter_48 ft_X3_0 (ms_o y F K N Z G0) (by first | rfl | decide) rfl (Nat.le_of_ble_eq_true rfl) (by simp [va_up]) ?_
  refine V.pic (msF y F K N Z G0 (va_up F 0 (0))) ?_
  refine V.pic (by rw [va_up_id hF0]) ?_
  refine V.aload_n k dX3_crashAfter_5 rfl ?_
  refine V.aload_n k dX3_crashAfter_6 rfl ?_
  refine V.getf (v := .int (nI (F 18))) k dX3_crashAfter_7 fl_X3_crashAfter_87 (ms_o y F K N Z G0) rfl ?_
  refine V.z_eq (tgt := 20) k dX3_crashAfter_10 (by decide) (by omega) (fun hd => ?_) (fun hd => ?_)
  · refine V.iload_n k dX3_crashAfter_20 rfl ?_
    refine V.iconst (v := nI 1) k dX3_crashAfter_21 (by decide) ?_
    refine V.icmp_ge (tgt := 29) k dX3_crashAfter_22 (by decide) (fun h9 => ?_) (fun h9 => ?_)
    · have h8 : ¬ n0 < 1 := fun q => Int32.lt_irrefl (Int32.lt_of_lt_of_le q h9)
      refine V.iload_n k dX3_crashAfter_29 rfl ?_
      refine V.stk (st' := [.int (nI (tn n0)), .ref y]) (by rw [nI_tn]) ?_
      have hc : crN F n0 = tn n0 := by unfold crN; rw [if_pos hd, if_neg h8]
      rw [hc]
      refine V.putf (fs' := mF y (va_up F 19 (tn n0))) k dX3_crashAfter_30 fl_X3_crashAfter_119 ft_X3_19 (ms_o y F K N Z G0) (by first | rfl | decide) rfl (Nat.le_of_ble_eq_true rfl) (by simp [va_up]) ?_
      refine V.pic (msF y F K N Z G0 (va_up F 19 (tn n0))) ?_
      exact V.vret k hM dX3_crashAfter_33 (Nat.le_of_ble_eq_true rfl) (Nat.le_of_ble_eq_true rfl) (rt_ok)
    · have h8 : n0 < 1 := Int32.not_le.mp h9
      refine V.iconst (v := nI 0) k dX3_crashAfter_25 (by decide) ?_
      refine V.goto (tgt := 30) k dX3_crashAfter_26 (by decide) ?_
      have hc : crN F n0 = 0 := by unfold crN; rw [if_pos hd, if_pos h8]
      rw [hc]
      refine V.putf (fs' := mF y (va_up F 19 (0))) k dX3_crashAfter_30 fl_X3_crashAfter_119 ft_X3_19 (ms_o y F K N Z G0) (by first | rfl | decide) rfl (Nat.le_of_ble_eq_true rfl) (by simp [va_up]) ?_
      refine V.pic (msF y F K N Z G0 (va_up F 19 (0))) ?_
      exact V.vret k hM dX3_crashAfter_33 (Nat.le_of_ble_eq_true rfl) (Nat.le_of_ble_eq_true rfl) (rt_ok)
  · refine V.aload_n k dX3_crashAfter_13 rfl ?_
    refine V.getf (v := .int (nI (F 19))) k dX3_crashAfter_14 fl_X3_crashAfter_119 (ms_o y F K N Z G0) rfl ?_
    refine V.goto (tgt := 30) k dX3_crashAfter_17 (by decide) ?_
    have hc : crN F n0 = F 19 := by unfold crN; rw [if_neg (by omega)]
    rw [hc]
    refine V.putf (fs' := mF y (va_up F 19 (F 19))) k dX3_crashAfter_30 fl_X3_crashAfter_119 ft_X3_19 (ms_o y F K N Z G0) (by first | rfl | decide) rfl (Nat.le_of_ble_eq_true rfl) (by simp [va_up]) ?_
    refine V.pic (msF y F K N Z G0 (va_up F 19 (F 19))) ?_
    exact V.vret k hM dX3_crashAfter_33 (Nat.le_of_ble_eq_true rfl) (Nat.le_of_ble_eq_true rfl) (rt_ok)
