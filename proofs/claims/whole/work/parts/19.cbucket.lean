theorem fl_X0_init_9 : FL wsX0_init RX0 9 0 1 := ⟨RX0, TX0, 5, rfl, (fun _ h => List.mem_cons_of_mem _ (List.mem_append_right _ h)), by decide, List.mem_of_getElem? (i := 5) rfl, rfl⟩
theorem fl_X0_init_15 : FL wsX0_init RX0 15 0 2 := ⟨RX0, TX0, 5, rfl, (fun _ h => List.mem_cons_of_mem _ (List.mem_append_right _ h)), by decide, List.mem_of_getElem? (i := 6) rfl, rfl⟩
theorem fl_X0_init_18 : FL wsX0_init RX0 18 0 0 := ⟨RX0, TX0, 5, rfl, (fun _ h => List.mem_cons_of_mem _ (List.mem_append_right _ h)), by decide, List.mem_of_getElem? (i := 7) rfl, rfl⟩
set_option maxHeartbeats 4000000 in
set_option maxRecDepth 100000 in
theorem c_X0_init (l : Launch) (w : Wd) (b sz : Nat) (G : Pic) (loc : Nat) (hsz : sz = b + 1) (hG : G b = some (gO 0 [.int (nI 0), .null, .null, .int (nI 0), .int (nI 0)])) : Ct l w yX0_init wsX0_init ⟨1, 2, 30, 16⟩ [.ref (b), .int (nI (loc))] G sz (fun v G' sz' => v = none ∧ sz' = b + 3 ∧ BkAt G' b loc 0 0 (fun _ => 0) (fun _ => 0) ∧ ∀ q, q < b → G' q = G q) := by
  refine Ct.of (cc := cX0_init) (maxL := 2) (ret := none) (L := [some (.ref (b)), some (.int (nI (loc)))]) (by decide +kernel) rfl (by simp [Value.category]) (by simp) rfl ?_
  intro p e s m args below meth c k hM
  subst hsz
  refine V.aload_n k dX0_init_0 rfl ?_
  refine V.objInit k dX0_init_1 (List.mem_of_getElem? (i := 1) rfl) (List.mem_of_getElem? (i := 2) rfl) (List.mem_of_getElem? (i := 3) rfl) rfl (Nat.le_of_ble_eq_true rfl) (Nat.le_of_ble_eq_true rfl) ?_
  refine V.aload_n k dX0_init_4 rfl ?_
  refine V.bipush (v := nI 15) k dX0_init_5 (by decide) ?_
  refine V.newI (n := 15) k dX0_init_7 rfl (List.mem_of_getElem? (i := 4) rfl) (Nat.le_of_ble_eq_true rfl) (Nat.le_of_ble_eq_true rfl) (Nat.le_of_ble_eq_true rfl) ?_
  refine V.putF (C0 := RX0) (fs' := [.int (nI (0)), .ref (b + 1), .null, .int (nI (0)), .int (nI (0))]) k dX0_init_9 fl_X0_init_9 ft_X0_1 rfl hM.2.2 ((gup_ne _ _ (by omega)).trans (hG)) (by first | rfl | decide) rfl (Nat.le_of_ble_eq_true rfl) rfl ?_
  refine V.aload_n k dX0_init_12 rfl ?_
  refine V.bipush (v := nI 15) k dX0_init_13 (by decide) ?_
  refine V.newI (n := 15) k dX0_init_15 rfl (List.mem_of_getElem? (i := 4) rfl) (Nat.le_of_ble_eq_true rfl) (Nat.le_of_ble_eq_true rfl) (Nat.le_of_ble_eq_true rfl) ?_
  refine V.putF (C0 := RX0) (fs' := [.int (nI (0)), .ref (b + 1), .ref (b + 2), .int (nI (0)), .int (nI (0))]) k dX0_init_17 fl_X0_init_15 ft_X0_2 rfl hM.2.2 ((gup_ne _ _ (by omega)).trans (gup_self _ _ _)) (by first | rfl | decide) rfl (Nat.le_of_ble_eq_true rfl) rfl ?_
  refine V.aload_n k dX0_init_20 rfl ?_
  refine V.iload_n k dX0_init_21 rfl ?_
  refine V.putF (C0 := RX0) (fs' := [.int (nI (loc)), .ref (b + 1), .ref (b + 2), .int (nI (0)), .int (nI (0))]) k dX0_init_22 fl_X0_init_18 ft_X0_0 rfl hM.2.2 (gup_self _ _ _) (by first | rfl | decide) rfl (Nat.le_of_ble_eq_true rfl) rfl ?_
  exact V.vret k hM dX0_init_25 (Nat.le_of_ble_eq_true rfl) (Nat.le_of_ble_eq_true rfl) (⟨rfl, rfl, ⟨gup_self _ _ _, (gup_ne _ _ (by omega)).trans ((gup_ne _ _ (by omega)).trans ((gup_ne _ _ (by omega)).trans ((gup_ne _ _ (by omega)).trans (gup_self _ _ _)))), (gup_ne _ _ (by omega)).trans ((gup_ne _ _ (by omega)).trans (gup_self _ _ _))⟩, fun q hq => (gup_ne _ _ (by omega)).trans ((gup_ne _ _ (by omega)).trans ((gup_ne _ _ (by omega)).trans ((gup_ne _ _ (by omega)).trans ((gup_ne _ _ (by omega)).trans (rfl)))))⟩)
theorem fl_X0_placeOf_22 : FL wsX0_placeOf RX0 22 0 3 := ⟨RX0, TX0, 5, rfl, (fun _ h => List.mem_cons_of_mem _ (List.mem_append_right _ h)), by decide, List.mem_of_getElem? (i := 1) rfl, rfl⟩
theorem fl_X0_placeOf_9 : FL wsX0_placeOf RX0 9 0 1 := ⟨RX0, TX0, 5, rfl, (fun _ h => List.mem_cons_of_mem _ (List.mem_append_right _ h)), by decide, List.mem_of_getElem? (i := 2) rfl, rfl⟩
set_option maxHeartbeats 4000000 in
set_option maxRecDepth 100000 in
theorem c_X0_placeOf (l : Launch) (w : Wd) (b sz : Nat) (G : Pic) (loc cnt blk : Nat) (K U : Nat → Int32) (hB : BkAt G b loc cnt blk K U) (hc : cnt ≤ 15) (k0 : Int32) : Ct l w yX0_placeOf wsX0_placeOf ⟨0, 0, 0, 0⟩ [.ref (b), .int (k0)] G sz (rt (some (.int (if fnd K k0 cnt 0 < cnt then nI (fnd K k0 cnt 0) else (-1)))) G sz) := by
  refine Ct.of (cc := cX0_placeOf) (maxL := 3) (ret := (some .int)) (L := [some (.ref (b)), some (.int (k0)), none]) (by decide +kernel) rfl (by simp [Value.category]) (by simp) rfl ?_
  intro p e s m args below meth c k hM
  generalize hA : fnd K k0 cnt 0 = A
  have lp : ∀ (nq i : Nat) , i ≤ cnt → cnt - i < nq → (fnd K k0 (cnt - i) i = A) → V p l e ⟨0, 0, 0, 0⟩ s m args below meth c w G sz 0 0 (mQ w below args s ⟨0, 0, 0, 0⟩ (rt (some (.int (if A < cnt then nI (A) else (-1)))) G sz)) 2 [some (.ref (b)), some (.int (k0)), some (.int (nI (i)))] [] := by
    intro nq
    induction nq with
    | zero => intro i  h1 h2 h3; omega
    | succ nq ih =>
      intro i  h1 h2 h3
      refine V.iload_n k dX0_placeOf_2 rfl ?_
      refine V.aload_n k dX0_placeOf_3 rfl ?_
      refine V.getf (v := .int (nI (cnt))) k dX0_placeOf_4 fl_X0_placeOf_22 (hB.1) rfl ?_
      refine V.n_ge (tgt := 28) k dX0_placeOf_7 (by decide) (by omega) (by omega) (fun hb => ?_) (fun hb => ?_)
      · rw [show cnt - i = 0 by omega] at h3
        have h4 : i = A := h3
        rw [if_neg (by omega)]
        refine V.iconst (v := (-1)) k dX0_placeOf_28 (by decide) ?_
        exact V.iret k hM dX0_placeOf_29 (Nat.le_of_ble_eq_true rfl) (Nat.le_of_ble_eq_true rfl) (rt_ok)
      · rw [show cnt - i = (cnt - (i + 1)) + 1 by omega] at h3
        unfold fnd at h3
        refine V.aload_n k dX0_placeOf_10 rfl ?_
        refine V.getf (v := .ref (b + 1)) k dX0_placeOf_11 fl_X0_placeOf_9 (hB.1) rfl ?_
        refine V.iload_n k dX0_placeOf_14 rfl ?_
        refine V.iald (v := (K (i))) k dX0_placeOf_15 (hB.2.1) rfl (by omega) (by omega) (rfl) ?_
        refine V.iload_n k dX0_placeOf_16 rfl ?_
        refine V.icmp_ne (tgt := 22) k dX0_placeOf_17 (by decide) (fun hb => ?_) (fun hb => ?_)
        · rw [if_neg hb] at h3
          refine V.iinc (x := (nI (i))) (v := (nI (i + 1))) (L' := [some (.ref (b)), some (.int (k0)), some (.int (nI (i + 1)))]) k dX0_placeOf_22 rfl (nI_inc1 _) rfl ?_
          refine V.goto (tgt := 2) k dX0_placeOf_25 (by decide) ?_
          exact ih (i + 1) (by omega) (by omega) h3
        · rw [if_pos hb] at h3
          subst h3
          refine V.iload_n k dX0_placeOf_20 rfl ?_
          refine V.stk (st' := [.int (if i < cnt then nI i else (-1))]) (by rw [if_pos (by omega)]) ?_
          exact V.iret k hM dX0_placeOf_21 (Nat.le_of_ble_eq_true rfl) (Nat.le_of_ble_eq_true rfl) (rt_ok)
  refine V.iconst (v := nI 0) k dX0_placeOf_0 (by decide) ?_
  refine V.istore_n (L' := [some (.ref (b)), some (.int (k0)), some (.int (nI (0)))]) k dX0_placeOf_1 (Nat.le_of_ble_eq_true rfl) rfl ?_
  exact lp (cnt + 1) 0 (by omega) (by omega) hA
theorem c_X0_placeOf_no (l : Launch) (w : Wd) (b sz : Nat) (G : Pic) (loc cnt blk : Nat) (K U : Nat → Int32) (hB : BkAt G b loc cnt blk K U) (hc : cnt ≤ 15) (k0 : Int32) (hp : ¬ fnd K k0 cnt 0 < cnt) : Ct l w yX0_placeOf wsX0_placeOf ⟨0, 0, 0, 0⟩ [.ref (b), .int (k0)] G sz (rt (some (.int (-1))) G sz) := by
  have h := c_X0_placeOf l w b sz G loc cnt blk K U hB hc k0
  rw [if_neg hp] at h
  exact h
theorem c_X0_placeOf_yes (l : Launch) (w : Wd) (b sz : Nat) (G : Pic) (loc cnt blk : Nat) (K U : Nat → Int32) (hB : BkAt G b loc cnt blk K U) (hc : cnt ≤ 15) (k0 : Int32) (hp : fnd K k0 cnt 0 < cnt) : Ct l w yX0_placeOf wsX0_placeOf ⟨0, 0, 0, 0⟩ [.ref (b), .int (k0)] G sz (rt (some (.int (nI (fnd K k0 cnt 0)))) G sz) := by
  have h := c_X0_placeOf l w b sz G loc cnt blk K U hB hc k0
  rw [if_pos hp] at h
  exact h
theorem fl_X0_store_15 : FL wsX0_store RX0 15 0 2 := ⟨RX0, TX0, 5, rfl, (fun _ h => List.mem_cons_of_mem _ (List.mem_append_right _ h)), by decide, List.mem_of_getElem? (i := 1) rfl, rfl⟩
theorem fl_X0_store_9 : FL wsX0_store RX0 9 0 1 := ⟨RX0, TX0, 5, rfl, (fun _ h => List.mem_cons_of_mem _ (List.mem_append_right _ h)), by decide, List.mem_of_getElem? (i := 2) rfl, rfl⟩
theorem fl_X0_store_22 : FL wsX0_store RX0 22 0 3 := ⟨RX0, TX0, 5, rfl, (fun _ h => List.mem_cons_of_mem _ (List.mem_append_right _ h)), by decide, List.mem_of_getElem? (i := 3) rfl, rfl⟩
set_option maxHeartbeats 4000000 in
set_option maxRecDepth 100000 in
theorem c_X0_store_old (l : Launch) (w : Wd) (b sz : Nat) (G : Pic) (loc cnt blk : Nat) (K U : Nat → Int32) (hB : BkAt G b loc cnt blk K U) (hc : cnt ≤ 15) (k0 v0 : Int32) (hp : fnd K k0 cnt 0 < cnt) : Ct l w yX0_store wsX0_store ⟨1, 0, 0, 22⟩ [.ref (b), .int (k0), .int (v0)] G sz (fun v G' sz' => v = some (.int (nI 0)) ∧ sz' = sz ∧ BkAt G' b loc cnt blk K (upd U (fnd K k0 cnt 0) v0) ∧ Sm G G' b) := by
  refine Ct.of (cc := cX0_store) (maxL := 4) (ret := (some .boolean)) (L := [some (.ref (b)), some (.int (k0)), some (.int (v0)), none]) (by decide +kernel) rfl (by simp [Value.category]) (by simp) rfl ?_
  intro p e s m args below meth c k hM
  refine V.aload_n k dX0_store_0 rfl ?_
  refine V.iload_n k dX0_store_1 rfl ?_
  refine V.cV (As := [.int (k0)]) (ci := 0) (st1 := [.int (nI (fnd K k0 cnt 0))]) k dX0_store_2 (c_X0_placeOf_yes l w b sz G loc cnt blk K U hB hc k0 hp) gX0_store_X0_placeOf rfl rfl (hB.1) ⟨rfl, hd_X0_placeOf⟩ ⟨⟨Nat.le_of_ble_eq_true rfl, Nat.le_of_ble_eq_true rfl⟩, Nat.le_of_ble_eq_true rfl, Nat.le_of_ble_eq_true rfl⟩ rfl rfl rfl (Nat.le_of_ble_eq_true rfl) rfl ?_
  refine V.istore_n (L' := [some (.ref (b)), some (.int (k0)), some (.int (v0)), some (.int (nI (fnd K k0 cnt 0)))]) k dX0_store_5 (Nat.le_of_ble_eq_true rfl) rfl ?_
  refine V.iload_n k dX0_store_6 rfl ?_
  refine V.z_lt (tgt := 19) k dX0_store_7 (by decide) (by omega) (fun hq => ?_) (fun hq => ?_)
  · exact absurd hq id
  · refine V.aload_n k dX0_store_10 rfl ?_
    refine V.getf (v := .ref (b + 2)) k dX0_store_11 fl_X0_store_15 (hB.1) rfl ?_
    refine V.iload_n k dX0_store_14 rfl ?_
    refine V.iload_n k dX0_store_15 rfl ?_
    refine V.iast (f' := upd (U) (fnd K k0 cnt 0) ((v0))) k dX0_store_16 (hB.2.2) rfl (by omega) (by omega) rfl ?_
    refine V.iconst (v := nI 0) k dX0_store_17 (by decide) ?_
    exact V.zret k hM dX0_store_18 (by first | rfl | decide) (Nat.le_of_ble_eq_true rfl) (Nat.le_of_ble_eq_true rfl) (⟨rfl, rfl, ⟨(gup_ne _ _ (by omega)).trans (hB.1), (gup_ne _ _ (by omega)).trans (hB.2.1), gup_self _ _ _⟩, Sm.up _ (by omega)⟩)
set_option maxHeartbeats 4000000 in
set_option maxRecDepth 100000 in
theorem c_X0_store_new (l : Launch) (w : Wd) (b sz : Nat) (G : Pic) (loc cnt blk : Nat) (K U : Nat → Int32) (hB : BkAt G b loc cnt blk K U) (hc : cnt ≤ 15) (k0 v0 : Int32) (hp : ¬ fnd K k0 cnt 0 < cnt) (hc2 : cnt < 15) : Ct l w yX0_store wsX0_store ⟨1, 0, 0, 22⟩ [.ref (b), .int (k0), .int (v0)] G sz (fun v G' sz' => v = some (.int (nI 1)) ∧ sz' = sz ∧ BkAt G' b loc (cnt + 1) blk (upd K cnt k0) (upd U cnt v0) ∧ Sm G G' b) := by
  refine Ct.of (cc := cX0_store) (maxL := 4) (ret := (some .boolean)) (L := [some (.ref (b)), some (.int (k0)), some (.int (v0)), none]) (by decide +kernel) rfl (by simp [Value.category]) (by simp) rfl ?_
  intro p e s m args below meth c k hM
  refine V.aload_n k dX0_store_0 rfl ?_
  refine V.iload_n k dX0_store_1 rfl ?_
  refine V.cV (As := [.int (k0)]) (ci := 0) (st1 := [.int ((-1))]) k dX0_store_2 (c_X0_placeOf_no l w b sz G loc cnt blk K U hB hc k0 hp) gX0_store_X0_placeOf rfl rfl (hB.1) ⟨rfl, hd_X0_placeOf⟩ ⟨⟨Nat.le_of_ble_eq_true rfl, Nat.le_of_ble_eq_true rfl⟩, Nat.le_of_ble_eq_true rfl, Nat.le_of_ble_eq_true rfl⟩ rfl rfl rfl (Nat.le_of_ble_eq_true rfl) rfl ?_
  refine V.istore_n (L' := [some (.ref (b)), some (.int (k0)), some (.int (v0)), some (.int ((-1)))]) k dX0_store_5 (Nat.le_of_ble_eq_true rfl) rfl ?_
  refine V.iload_n k dX0_store_6 rfl ?_
  refine V.if_lt (tgt := 19) k dX0_store_7 (by decide) (fun hq => ?_) (fun hq => ?_)
  · refine V.aload_n k dX0_store_19 rfl ?_
    refine V.getf (v := .ref (b + 1)) k dX0_store_20 fl_X0_store_9 (hB.1) rfl ?_
    refine V.aload_n k dX0_store_23 rfl ?_
    refine V.getf (v := .int (nI (cnt))) k dX0_store_24 fl_X0_store_22 (hB.1) rfl ?_
    refine V.iload_n k dX0_store_27 rfl ?_
    refine V.iast (f' := upd (K) (cnt) ((k0))) k dX0_store_28 (hB.2.1) rfl (by omega) (by omega) rfl ?_
    refine V.aload_n k dX0_store_29 rfl ?_
    refine V.getf (v := .ref (b + 2)) k dX0_store_30 fl_X0_store_15 ((gup_ne _ _ (by omega)).trans (hB.1)) rfl ?_
    refine V.aload_n k dX0_store_33 rfl ?_
    refine V.getf (v := .int (nI (cnt))) k dX0_store_34 fl_X0_store_22 ((gup_ne _ _ (by omega)).trans (hB.1)) rfl ?_
    refine V.iload_n k dX0_store_37 rfl ?_
    refine V.iast (f' := upd (U) (cnt) ((v0))) k dX0_store_38 ((gup_ne _ _ (by omega)).trans (hB.2.2)) rfl (by omega) (by omega) rfl ?_
    refine V.aload_n k dX0_store_39 rfl ?_
    refine V.dup k dX0_store_40 rfl ?_
    refine V.getf (v := .int (nI (cnt))) k dX0_store_41 fl_X0_store_22 ((gup_ne _ _ (by omega)).trans ((gup_ne _ _ (by omega)).trans (hB.1))) rfl ?_
    refine V.iconst (v := nI 1) k dX0_store_44 (by decide) ?_
    refine V.iadd (v := (nI (cnt + 1))) k dX0_store_45 (nI_add _ _) ?_
    refine V.putf (fs' := [.int (nI (loc)), .ref (b + 1), .ref (b + 2), .int (nI (cnt + 1)), .int (nI (blk))]) k dX0_store_46 fl_X0_store_22 ft_X0_3 ((gup_ne _ _ (by omega)).trans ((gup_ne _ _ (by omega)).trans (hB.1))) (by first | rfl | decide) rfl (Nat.le_of_ble_eq_true rfl) rfl ?_
    refine V.iconst (v := nI 1) k dX0_store_49 (by decide) ?_
    exact V.zret k hM dX0_store_50 (by first | rfl | decide) (Nat.le_of_ble_eq_true rfl) (Nat.le_of_ble_eq_true rfl) (⟨rfl, rfl, ⟨gup_self _ _ _, (gup_ne _ _ (by omega)).trans ((gup_ne _ _ (by omega)).trans (gup_self _ _ _)), (gup_ne _ _ (by omega)).trans (gup_self _ _ _)⟩, ((Sm.up _ (by omega)).tr (Sm.up _ (by omega))).tr (Sm.up _ (by omega))⟩)
  · exact absurd (show ((-1 : Int32) < 0) by decide) hq
theorem fl_X0_drop_22 : FL wsX0_drop RX0 22 0 3 := ⟨RX0, TX0, 5, rfl, (fun _ h => List.mem_cons_of_mem _ (List.mem_append_right _ h)), by decide, List.mem_of_getElem? (i := 1) rfl, rfl⟩
theorem fl_X0_drop_9 : FL wsX0_drop RX0 9 0 1 := ⟨RX0, TX0, 5, rfl, (fun _ h => List.mem_cons_of_mem _ (List.mem_append_right _ h)), by decide, List.mem_of_getElem? (i := 2) rfl, rfl⟩
theorem fl_X0_drop_15 : FL wsX0_drop RX0 15 0 2 := ⟨RX0, TX0, 5, rfl, (fun _ h => List.mem_cons_of_mem _ (List.mem_append_right _ h)), by decide, List.mem_of_getElem? (i := 3) rfl, rfl⟩
set_option maxHeartbeats 4000000 in
set_option maxRecDepth 100000 in
theorem c_X0_drop (l : Launch) (w : Wd) (b sz : Nat) (G : Pic) (loc cnt blk : Nat) (K U : Nat → Int32) (hB : BkAt G b loc cnt blk K U) (hc : cnt ≤ 15) (pl : Nat) (hp : pl < cnt) : Ct l w yX0_drop wsX0_drop ⟨0, 0, 0, 0⟩ [.ref (b), .int (nI (pl))] G sz (fun v G' sz' => v = none ∧ sz' = sz ∧ BkAt G' b loc (cnt - 1) blk (upd K pl (K (cnt - 1))) (upd U pl (U (cnt - 1))) ∧ Sm G G' b) := by
  refine Ct.of (cc := cX0_drop) (maxL := 2) (ret := none) (L := [some (.ref (b)), some (.int (nI (pl)))]) (by decide +kernel) rfl (by simp [Value.category]) (by simp) rfl ?_
  intro p e s m args below meth c k hM
  refine V.aload_n k dX0_drop_0 rfl ?_
  refine V.dup k dX0_drop_1 rfl ?_
  refine V.getf (v := .int (nI (cnt))) k dX0_drop_2 fl_X0_drop_22 (hB.1) rfl ?_
  refine V.iconst (v := nI 1) k dX0_drop_5 (by decide) ?_
  refine V.isub (v := (nI (cnt - 1))) k dX0_drop_6 (pk_sub (by omega)) ?_
  refine V.putf (fs' := [.int (nI (loc)), .ref (b + 1), .ref (b + 2), .int (nI (cnt - 1)), .int (nI (blk))]) k dX0_drop_7 fl_X0_drop_22 ft_X0_3 (hB.1) (by first | rfl | decide) rfl (Nat.le_of_ble_eq_true rfl) rfl ?_
  refine V.aload_n k dX0_drop_10 rfl ?_
  refine V.getf (v := .ref (b + 1)) k dX0_drop_11 fl_X0_drop_9 (gup_self _ _ _) rfl ?_
  refine V.iload_n k dX0_drop_14 rfl ?_
  refine V.aload_n k dX0_drop_15 rfl ?_
  refine V.getf (v := .ref (b + 1)) k dX0_drop_16 fl_X0_drop_9 (gup_self _ _ _) rfl ?_
  refine V.aload_n k dX0_drop_19 rfl ?_
  refine V.getf (v := .int (nI (cnt - 1))) k dX0_drop_20 fl_X0_drop_22 (gup_self _ _ _) rfl ?_
  refine V.iald (v := (K (cnt - 1))) k dX0_drop_23 ((gup_ne _ _ (by omega)).trans (hB.2.1)) rfl (by omega) (by omega) (rfl) ?_
  refine V.iast (f' := upd (K) (pl) ((K (cnt - 1)))) k dX0_drop_24 ((gup_ne _ _ (by omega)).trans (hB.2.1)) rfl (by omega) (by omega) rfl ?_
  refine V.aload_n k dX0_drop_25 rfl ?_
  refine V.getf (v := .ref (b + 2)) k dX0_drop_26 fl_X0_drop_15 ((gup_ne _ _ (by omega)).trans (gup_self _ _ _)) rfl ?_
  refine V.iload_n k dX0_drop_29 rfl ?_
  refine V.aload_n k dX0_drop_30 rfl ?_
  refine V.getf (v := .ref (b + 2)) k dX0_drop_31 fl_X0_drop_15 ((gup_ne _ _ (by omega)).trans (gup_self _ _ _)) rfl ?_
  refine V.aload_n k dX0_drop_34 rfl ?_
  refine V.getf (v := .int (nI (cnt - 1))) k dX0_drop_35 fl_X0_drop_22 ((gup_ne _ _ (by omega)).trans (gup_self _ _ _)) rfl ?_
  refine V.iald (v := (U (cnt - 1))) k dX0_drop_38 ((gup_ne _ _ (by omega)).trans ((gup_ne _ _ (by omega)).trans (hB.2.2))) rfl (by omega) (by omega) (rfl) ?_
  refine V.iast (f' := upd (U) (pl) ((U (cnt - 1)))) k dX0_drop_39 ((gup_ne _ _ (by omega)).trans ((gup_ne _ _ (by omega)).trans (hB.2.2))) rfl (by omega) (by omega) rfl ?_
  exact V.vret k hM dX0_drop_40 (Nat.le_of_ble_eq_true rfl) (Nat.le_of_ble_eq_true rfl) (⟨rfl, rfl, ⟨(gup_ne _ _ (by omega)).trans ((gup_ne _ _ (by omega)).trans (gup_self _ _ _)), (gup_ne _ _ (by omega)).trans (gup_self _ _ _), gup_self _ _ _⟩, ((Sm.up _ (by omega)).tr (Sm.up _ (by omega))).tr (Sm.up _ (by omega))⟩)
theorem fl_X0_changedCopy_22 : FL wsX0_changedCopy RX0 22 0 3 := ⟨RX0, TX0, 5, rfl, (fun _ h => List.mem_cons_of_mem _ (List.mem_append_right _ h)), by decide, List.mem_of_getElem? (i := 4) rfl, rfl⟩
theorem fl_X0_changedCopy_9 : FL wsX0_changedCopy RX0 9 0 1 := ⟨RX0, TX0, 5, rfl, (fun _ h => List.mem_cons_of_mem _ (List.mem_append_right _ h)), by decide, List.mem_of_getElem? (i := 5) rfl, rfl⟩
theorem fl_X0_changedCopy_15 : FL wsX0_changedCopy RX0 15 0 2 := ⟨RX0, TX0, 5, rfl, (fun _ h => List.mem_cons_of_mem _ (List.mem_append_right _ h)), by decide, List.mem_of_getElem? (i := 6) rfl, rfl⟩
set_option maxHeartbeats 4000000 in
set_option maxRecDepth 100000 in
theorem c_X0_changedCopy (l : Launch) (w : Wd) (b sz : Nat) (G : Pic) (loc cnt blk : Nat) (K U : Nat → Int32) (hB : BkAt G b loc cnt blk K U) (hc : cnt ≤ 15) (nl : Nat) (hbs : b + 2 < sz) : Ct l w yX0_changedCopy wsX0_changedCopy ⟨2, 3, 35, 37⟩ [.ref (b), .int (nI (nl))] G sz (fun v G' sz' => v = some (.ref sz) ∧ sz' = sz + 3 ∧ BkAt G' sz nl cnt 0 (cpT K (fun _ => 0) cnt) (cpT U (fun _ => 0) cnt) ∧ ∀ q, q < sz → G' q = G q) := by
  refine Ct.of (cc := cX0_changedCopy) (maxL := 4) (ret := (some (.object "ExtendStore$Bucket"))) (L := [some (.ref (b)), some (.int (nI (nl))), none, none]) (by decide +kernel) rfl (by simp [Value.category]) (by simp) rfl ?_
  intro p e s m args below meth c k hM
  refine V.new (ci := 0) (N := 5) (fs := [.int (nI (0)), .null, .null, .int (nI (0)), .int (nI (0))]) k dX0_changedCopy_0 rfl (fun _ h => List.mem_cons_of_mem _ (List.mem_append_right _ h)) tyX0_ok (List.mem_of_getElem? (i := 1) rfl) (List.mem_of_getElem? (i := 2) rfl) (List.mem_of_getElem? (i := 3) rfl) (fun j hj => by rcases (show j = 0 ∨ j = 1 ∨ j = 2 ∨ j = 3 ∨ j = 4 by omega) with rfl | rfl | rfl | rfl | rfl <;> rfl) (Nat.le_of_ble_eq_true rfl) (Nat.le_of_ble_eq_true rfl) ?_
  refine V.dup k dX0_changedCopy_3 rfl ?_
  refine V.iload_n k dX0_changedCopy_4 rfl ?_
  refine V.callI (As := [.int (nI (nl))]) k dX0_changedCopy_5 (c_X0_init l w sz (sz + 1) (gup G (sz) (gO 0 [.int (nI (0)), .null, .null, .int (nI (0)), .int (nI (0))])) nl rfl (gup_self _ _ _)) gX0_changedCopy_X0_init rfl (List.mem_of_getElem? (i := 3) rfl) (List.mem_of_getElem? (i := 7) rfl) (List.mem_of_getElem? (i := 8) rfl) rfl hd_X0_init ⟨⟨Nat.le_of_ble_eq_true rfl, Nat.le_of_ble_eq_true rfl⟩, Nat.le_of_ble_eq_true rfl, Nat.le_of_ble_eq_true rfl⟩ rfl rfl rfl (Nat.le_of_ble_eq_true rfl) (fun v1 G1 sz1 hp1 => ?_)
  obtain ⟨rfl, rfl, hB1, hf1⟩ := hp1
  have hBb : BkAt G1 b loc cnt blk K U := ⟨(hf1 _ (by omega)).trans ((gup_ne _ _ (by omega)).trans hB.1), (hf1 _ (by omega)).trans ((gup_ne _ _ (by omega)).trans hB.2.1), (hf1 _ (by omega)).trans ((gup_ne _ _ (by omega)).trans hB.2.2)⟩
  have hfr : ∀ q, q < sz → G1 q = G q := fun q hq => (hf1 q hq).trans (gup_ne _ _ (by omega))
  clear hf1
  refine V.stk (st' := [.ref sz]) rfl ?_
  have lp : ∀ (nq i : Nat) (G2 : Pic), i ≤ cnt → cnt - i < nq → (BkAt G2 sz nl 0 0 (cpT K (fun _ => 0) i) (cpT U (fun _ => 0) i) ∧ BkAt G2 b loc cnt blk K U ∧ ∀ q, q < sz → G2 q = G q) → V p l e ⟨2, 3, 35, 37⟩ s m args below meth c w G2 (sz + 3) (0 + 1 + 2) (0 + 5 + 30) (mQ w below args s ⟨2, 3, 35, 37⟩ (fun v G' sz' => v = some (.ref sz) ∧ sz' = sz + 3 ∧ BkAt G' sz nl cnt 0 (cpT K (fun _ => 0) cnt) (cpT U (fun _ => 0) cnt) ∧ ∀ q, q < sz → G' q = G q)) 11 [some (.ref (b)), some (.int (nI (nl))), some (.ref (sz)), some (.int (nI (i)))] [] := by
    intro nq
    induction nq with
    | zero => intro i G2 h1 h2 hI; omega
    | succ nq ih =>
      intro i G2 h1 h2 hI
      obtain ⟨hI, hJ⟩ := hI
      refine V.iload_n k dX0_changedCopy_11 rfl ?_
      refine V.aload_n k dX0_changedCopy_12 rfl ?_
      refine V.getf (v := .int (nI (cnt))) k dX0_changedCopy_13 fl_X0_changedCopy_22 (hJ.1.1) rfl ?_
      refine V.n_ge (tgt := 49) k dX0_changedCopy_16 (by decide) (by omega) (by omega) (fun hb => ?_) (fun hb => ?_)
      · have hi : i = cnt := by omega
        subst hi
        refine V.aload_n k dX0_changedCopy_49 rfl ?_
        refine V.aload_n k dX0_changedCopy_50 rfl ?_
        refine V.getf (v := .int (nI (i))) k dX0_changedCopy_51 fl_X0_changedCopy_22 (hJ.1.1) rfl ?_
        refine V.putf (fs' := [.int (nI (nl)), .ref (sz + 1), .ref (sz + 2), .int (nI (i)), .int (nI (0))]) k dX0_changedCopy_54 fl_X0_changedCopy_22 ft_X0_3 (hI.1) (by first | rfl | decide) rfl (Nat.le_of_ble_eq_true rfl) rfl ?_
        refine V.aload_n k dX0_changedCopy_57 rfl ?_
        exact V.aret k hM dX0_changedCopy_58 (Nat.le_of_ble_eq_true rfl) (Nat.le_of_ble_eq_true rfl) (⟨rfl, rfl, ⟨gup_self _ _ _, (gup_ne _ _ (by omega)).trans (hI.2.1), (gup_ne _ _ (by omega)).trans (hI.2.2)⟩, fun q hq => (gup_ne _ _ (by omega)).trans (hJ.2 q hq)⟩)
      · refine V.aload_n k dX0_changedCopy_19 rfl ?_
        refine V.getf (v := .ref (sz + 1)) k dX0_changedCopy_20 fl_X0_changedCopy_9 (hI.1) rfl ?_
        refine V.iload_n k dX0_changedCopy_23 rfl ?_
        refine V.aload_n k dX0_changedCopy_24 rfl ?_
        refine V.getf (v := .ref (b + 1)) k dX0_changedCopy_25 fl_X0_changedCopy_9 (hJ.1.1) rfl ?_
        refine V.iload_n k dX0_changedCopy_28 rfl ?_
        refine V.iald (v := (K (i))) k dX0_changedCopy_29 (hJ.1.2.1) rfl (by omega) (by omega) (rfl) ?_
        refine V.iast (f' := upd (cpT K (fun _ => 0) i) (i) ((K (i)))) k dX0_changedCopy_30 (hI.2.1) rfl (by omega) (by omega) rfl ?_
        refine V.aload_n k dX0_changedCopy_31 rfl ?_
        refine V.getf (v := .ref (sz + 2)) k dX0_changedCopy_32 fl_X0_changedCopy_15 ((gup_ne _ _ (by omega)).trans (hI.1)) rfl ?_
        refine V.iload_n k dX0_changedCopy_35 rfl ?_
        refine V.aload_n k dX0_changedCopy_36 rfl ?_
        refine V.getf (v := .ref (b + 2)) k dX0_changedCopy_37 fl_X0_changedCopy_15 ((gup_ne _ _ (by omega)).trans (hJ.1.1)) rfl ?_
        refine V.iload_n k dX0_changedCopy_40 rfl ?_
        refine V.iald (v := (U (i))) k dX0_changedCopy_41 ((gup_ne _ _ (by omega)).trans (hJ.1.2.2)) rfl (by omega) (by omega) (rfl) ?_
        refine V.iast (f' := upd (cpT U (fun _ => 0) i) (i) ((U (i)))) k dX0_changedCopy_42 ((gup_ne _ _ (by omega)).trans (hI.2.2)) rfl (by omega) (by omega) rfl ?_
        refine V.iinc (x := (nI (i))) (v := (nI (i + 1))) (L' := [some (.ref (b)), some (.int (nI (nl))), some (.ref (sz)), some (.int (nI (i + 1)))]) k dX0_changedCopy_43 rfl (nI_inc1 _) rfl ?_
        refine V.goto (tgt := 11) k dX0_changedCopy_46 (by decide) ?_
        refine ih (i + 1) _ (by omega) (by omega) ⟨⟨(gup_ne _ _ (by omega)).trans ((gup_ne _ _ (by omega)).trans (hI.1)), ?_, ?_⟩, ⟨(gup_ne _ _ (by omega)).trans ((gup_ne _ _ (by omega)).trans (hJ.1.1)), (gup_ne _ _ (by omega)).trans ((gup_ne _ _ (by omega)).trans (hJ.1.2.1)), (gup_ne _ _ (by omega)).trans ((gup_ne _ _ (by omega)).trans (hJ.1.2.2))⟩, fun q hq => ((gup_ne _ _ (by omega)).trans ((gup_ne _ _ (by omega)).trans (hJ.2 q hq)))⟩
        · rw [← cpT_s]; exact (gup_ne _ _ (by omega)).trans (gup_self _ _ _)
        · rw [← cpT_s]; exact gup_self _ _ _
  refine V.astore_n (L' := [some (.ref (b)), some (.int (nI (nl))), some (.ref (sz)), none]) k dX0_changedCopy_8 (Nat.le_of_ble_eq_true rfl) rfl ?_
  refine V.iconst (v := nI 0) k dX0_changedCopy_9 (by decide) ?_
  refine V.istore_n (L' := [some (.ref (b)), some (.int (nI (nl))), some (.ref (sz)), some (.int (nI (0)))]) k dX0_changedCopy_10 (Nat.le_of_ble_eq_true rfl) rfl ?_
  exact lp (cnt + 1) 0 G1 (by omega) (by omega) ⟨by rw [cpT_0, cpT_0]; exact hB1, hBb, hfr⟩
