theorem mgN_z {K : Nat → Nat → Int32} {n d e : Nat} (he : e < 2 ^ d) : ∀ f N, N 1 e = 0 → mgN K n d e f N 1 e = 0
  | 0, _, h => h
  | f + 1, N, h => by
    rw [mgN]
    split
    · exact mgN_z he f _ (by rw [setN_1a, if_pos ⟨he, rfl⟩])
    · exact h
theorem mgN_2 {K : Nat → Nat → Int32} {n d e i : Nat} (hi : 2 ≤ i) : ∀ f N, mgN K n d e f N i = N i
  | 0, _ => rfl
  | f + 1, N => by
    rw [mgN]
    split
    · rw [mgN_2 hi f _, setN_2a _ _ _ _ _ _ hi]
    · rfl
theorem mgN_le {K : Nat → Nat → Int32} {n d e : Nat} (he : e < 2 ^ d) : ∀ f N, (∀ j, N 0 j ≤ 8 ∨ 2 ^ d ≤ j) → ∀ j, mgN K n d e f N 0 j ≤ 8 ∨ 2 ^ d ≤ j
  | 0, _, h => h
  | f + 1, N, h => by
    rw [mgN]
    split
    · refine mgN_le he f _ (setN_le h ?_)
      have := h e
      omega
    · exact h
theorem hv_zero {n : Nat} {KK VV : Nat → Int32} {L H R0 : Nat → Nat} {BI : Nat → Nat → Nat} {BD : Nat → Nat → Nat → Int32} {P : Nat → Prop} : ∀ {d : Nat}, Vw d n KK VV L H R0 BI BD P → ∀ {e : Nat}, e < 2 ^ d → H e = 0 → ∃ f, f < 2 ^ hvD L d ∧ H f = 0
  | 0, _, e, he, hz => ⟨e, he, hz⟩
  | d + 1, hv, e, he, hz => by
    unfold hvD
    by_cases hq : anyD L (d + 1) (2 ^ (d + 1)) = true
    · rw [if_pos hq]; exact ⟨e, he, hz⟩
    · rw [if_neg hq]
      have hL : ∀ e, e < 2 ^ (d + 1) → L e ≤ d := fun e he => by
        have h1 := (hv.1 e he).2.1
        have h2 : L e ≠ d + 1 := fun z => hq ((anyD_iff L (d + 1) _).mpr ⟨e, he, z⟩)
        omega
      have h1 : e % 2 ^ L e < 2 ^ (d + 1) := Nat.lt_of_le_of_lt (Nat.mod_le _ _) he
      have h2 := (hv.cong he h1 (by rw [Nat.mod_mod])).2.2
      exact hv_zero (hv.halve hL) (Nat.lt_of_lt_of_le (Nat.mod_lt _ (Nat.two_pow_pos _)) (Nat.pow_le_pow_right (by omega) (hL e he))) (h2.symm.trans hz)
theorem fl_X2_remove_50 : FL wsX2_remove RX2 50 2 8 := ⟨RX2, TX2, 9, rfl, (fun _ h => List.mem_cons_of_mem _ (List.mem_append_left _ (List.mem_append_left _ (List.mem_append_right _ h)))), by decide, List.mem_of_getElem? (i := 1) rfl, rfl⟩
theorem fl_X2_remove_38 : FL wsX2_remove RX2 38 2 2 := ⟨RX2, TX2, 9, rfl, (fun _ h => List.mem_cons_of_mem _ (List.mem_append_left _ (List.mem_append_left _ (List.mem_append_right _ h)))), by decide, List.mem_of_getElem? (i := 3) rfl, rfl⟩
theorem fl_X2_remove_98 : FL wsX2_remove RX2 98 1 4 := ⟨RX1, TX1, 5, rfl, (fun _ h => List.mem_cons_of_mem _ (List.mem_append_left _ (List.mem_append_right _ h))), by decide, List.mem_of_getElem? (i := 5) rfl, rfl⟩
set_option maxHeartbeats 4000000 in
set_option maxRecDepth 100000 in
theorem c_X2_remove_dn (l : Launch) (w : Wd) (y sz : Nat) (A : Nat → Nat) (S R DB : Nat → Nat → Nat) (T : Nat → Bool) (BI : Nat → Nat → Nat) (BD : Nat → Nat → Nat → Int32) (P : Nat → Prop) (M G : Pic) (hC : CS y sz A S R DB T BI BD P M G) (k0 : Int32) (hd : A 8 = 1) : Ct l w yX2_remove wsX2_remove ⟨4, 27, 315, 84⟩ [.ref (y), .int (k0)] G sz (rt (some (.int (-2000000003))) G sz) := by
  refine Ct.of (cc := cX2_remove) (maxL := 4) (ret := (some .int)) (L := [some (.ref (y)), some (.int (k0)), none, none]) (by decide +kernel) rfl (by simp [Value.category]) (by simp) rfl ?_
  intro p e s m args below meth c k hM
  have hab := hC.ab
  obtain ⟨hA0, hA0b, hA1, hA5, hA7, hA8⟩ := hab
  have hsz := hC.2.2.1.2
  refine V.aload_n k dX2_remove_0 rfl ?_
  refine V.getf (v := .int (nI (A 8))) k dX2_remove_1 fl_X2_remove_50 (hC.1.1) rfl ?_
  refine V.z_eq (tgt := 10) k dX2_remove_4 (by decide) (by omega) (fun hq => ?_) (fun hq => ?_)
  · exact absurd hq (by omega)
  · refine V.ldc (v := (-2000000003)) k dX2_remove_7 (List.mem_of_getElem? (i := 2) rfl) ?_
    exact V.iret k hM dX2_remove_9 (Nat.le_of_ble_eq_true rfl) (Nat.le_of_ble_eq_true rfl) (rt_ok)
set_option maxHeartbeats 4000000 in
set_option maxRecDepth 100000 in
theorem c_X2_remove_nk (l : Launch) (w : Wd) (y sz : Nat) (A : Nat → Nat) (S R DB : Nat → Nat → Nat) (T : Nat → Bool) (BI : Nat → Nat → Nat) (BD : Nat → Nat → Nat → Int32) (P : Nat → Prop) (M G : Pic) (hC : CS y sz A S R DB T BI BD P M G) (k0 : Int32) (hd : A 8 = 0) (hS2 : S 0 2 ≤ A 1) (hB4 : ∀ b, BI 4 b < 2 ^ 31) (B : Nat) (Z0 : Nat → Bool) (K : Nat → Nat → Int32) (N : Nat → Nat → Nat) (hV : LV B Z0 (S 0 2) (S 0 4) (S 0 3) (K 0) (K 1) (N 0) (N 1) (R 0) BI BD P) (hn : NdF (K 0) (S 0 4)) (hf : ¬ fnd (K 0) k0 (S 0 4) 0 < S 0 4) : Ct l w yX2_remove wsX2_remove ⟨4, 27, 315, 84⟩ [.ref (y), .int (k0)] G sz (rt (some (.int (-2000000002))) G sz) := by
  refine Ct.of (cc := cX2_remove) (maxL := 4) (ret := (some .int)) (L := [some (.ref (y)), some (.int (k0)), none, none]) (by decide +kernel) rfl (by simp [Value.category]) (by simp) rfl ?_
  intro p e s m args below meth c k hM
  have hab := hC.ab
  obtain ⟨hA0, hA0b, hA1, hA5, hA7, hA8⟩ := hab
  have hsz := hC.2.2.1.2
  have hpw : 2 ^ S 0 2 ≤ 2 ^ A 1 := Nat.pow_le_pow_right (by omega) hS2
  have hpA := p2le hA1
  have hpp := p2pos (S 0 2)
  have he0 : hx k0 % 2 ^ S 0 2 < 2 ^ S 0 2 := Nat.mod_lt _ hpp
  have hv := hV.1
  obtain ⟨a1, a2, a3, a4, a5, a6⟩ := hv.1 _ he0
  have hke := in_key hv k0
  have hbp : ¬ fnd (BD 0 (R 0 (hx k0 % 2 ^ S 0 2))) k0 (BI 3 (R 0 (hx k0 % 2 ^ S 0 2))) 0 < BI 3 (R 0 (hx k0 % 2 ^ S 0 2)) := fun q => hf ((bkt_find a6 hke).mp q)
  refine V.aload_n k dX2_remove_0 rfl ?_
  refine V.getf (v := .int (nI (A 8))) k dX2_remove_1 fl_X2_remove_50 (hC.1.1) rfl ?_
  refine V.z_eq (tgt := 10) k dX2_remove_4 (by decide) (by omega) (fun hq => ?_) (fun hq => ?_)
  · refine V.iload_n k dX2_remove_10 rfl ?_
    refine V.cS (As := [.int (k0)]) (st1 := [.int (mx k0)]) k dX2_remove_11 (c_X2_mix l w G sz k0) gX2_remove_X2_mix rfl hd_X2_mix ⟨⟨Nat.le_of_ble_eq_true rfl, Nat.le_of_ble_eq_true rfl⟩, Nat.le_of_ble_eq_true rfl, Nat.le_of_ble_eq_true rfl⟩ rfl rfl rfl (Nat.le_of_ble_eq_true rfl) rfl ?_
    refine V.istore_n (L' := [some (.ref (y)), some (.int (k0)), some (.int (mx k0)), none]) k dX2_remove_14 (Nat.le_of_ble_eq_true rfl) rfl ?_
    refine V.aload_n k dX2_remove_15 rfl ?_
    refine V.getf (v := .ref (y + 4)) k dX2_remove_16 fl_X2_remove_38 (hC.1.1) rfl ?_
    refine V.iload_n k dX2_remove_19 rfl ?_
    refine V.cV (As := [.int (mx k0)]) (ci := 1) (st1 := [.ref (R 0 (hx k0 % 2 ^ S 0 2))]) k dX2_remove_20 (c_X1_bucketOf l w (y + 4) sz G _ _ _ _ _ _ _ hC.1.2.1 (by omega) (by omega) (by omega) (mx k0)) gX2_remove_X1_bucketOf rfl rfl (hC.1.2.1.1) ⟨rfl, hd_X1_bucketOf⟩ ⟨⟨Nat.le_of_ble_eq_true rfl, Nat.le_of_ble_eq_true rfl⟩, Nat.le_of_ble_eq_true rfl, Nat.le_of_ble_eq_true rfl⟩ rfl rfl rfl (Nat.le_of_ble_eq_true rfl) rfl ?_
    refine V.iload_n k dX2_remove_23 rfl ?_
    refine V.cV (As := [.int (k0)]) (ci := 0) (st1 := [.int ((-1))]) k dX2_remove_24 (c_X0_placeOf_no l w (R 0 (hx k0 % 2 ^ S 0 2)) sz G _ _ _ _ _ (hC.bk a1) a5 k0 hbp) gX2_remove_X0_placeOf rfl rfl ((hC.bk a1).1) ⟨rfl, hd_X0_placeOf⟩ ⟨⟨Nat.le_of_ble_eq_true rfl, Nat.le_of_ble_eq_true rfl⟩, Nat.le_of_ble_eq_true rfl, Nat.le_of_ble_eq_true rfl⟩ rfl rfl rfl (Nat.le_of_ble_eq_true rfl) rfl ?_
    refine V.istore_n (L' := [some (.ref (y)), some (.int (k0)), some (.int (mx k0)), some (.int ((-1)))]) k dX2_remove_27 (Nat.le_of_ble_eq_true rfl) rfl ?_
    refine V.iload_n k dX2_remove_28 rfl ?_
    refine V.if_ge (tgt := 35) k dX2_remove_29 (by decide) (fun hs => ?_) (fun hs => ?_)
    · exact absurd hs (by decide +kernel)
    · refine V.ldc (v := (-2000000002)) k dX2_remove_32 (List.mem_of_getElem? (i := 4) rfl) ?_
      exact V.iret k hM dX2_remove_34 (Nat.le_of_ble_eq_true rfl) (Nat.le_of_ble_eq_true rfl) (rt_ok)
  · exact absurd hq (by omega)
set_option maxHeartbeats 4000000 in
set_option maxRecDepth 100000 in
theorem c_X2_remove_ok (l : Launch) (w : Wd) (y sz : Nat) (A : Nat → Nat) (S R DB : Nat → Nat → Nat) (T : Nat → Bool) (BI : Nat → Nat → Nat) (BD : Nat → Nat → Nat → Int32) (P : Nat → Prop) (M G : Pic) (hC : CS y sz A S R DB T BI BD P M G) (k0 : Int32) (hd : A 8 = 0) (hS2 : S 0 2 ≤ A 1) (hB4 : ∀ b, BI 4 b < 2 ^ 31) (B : Nat) (Z0 : Nat → Bool) (K : Nat → Nat → Int32) (N : Nat → Nat → Nat) (hV : LV B Z0 (S 0 2) (S 0 4) (S 0 3) (K 0) (K 1) (N 0) (N 1) (R 0) BI BD P) (hn : NdF (K 0) (S 0 4)) (hf : fnd (K 0) k0 (S 0 4) 0 < S 0 4) : Ct l w yX2_remove wsX2_remove ⟨4, 27, 315, 84⟩ [.ref (y), .int (k0)] G sz (fun v G' sz' => v = some (.int (nI 0)) ∧ ∃ nb' R' BI' BD' P', CS y sz' A (va_up S 0 (s3 (hvD ((mgN (va_up (va_up K 0 (upd (K 0) (fnd (K 0) k0 (S 0 4) 0) (K 0 (S 0 4 - 1)))) 1 (upd (K 1) (fnd (K 0) k0 (S 0 4) 0) (K 1 (S 0 4 - 1)))) (S 0 4 - 1) (S 0 2) (hx k0 % 2 ^ S 0 2) 9 (setN N (2 ^ S 0 2) (hx k0 % 2 ^ S 0 2) (N 0 (hx k0 % 2 ^ S 0 2)) (N 0 (hx k0 % 2 ^ S 0 2)))) 0) (S 0 2)) nb' (S 0 4 - 1))) (va_up R 0 R') DB T BI' BD' P' M G' ∧ LV B Z0 (hvD ((mgN (va_up (va_up K 0 (upd (K 0) (fnd (K 0) k0 (S 0 4) 0) (K 0 (S 0 4 - 1)))) 1 (upd (K 1) (fnd (K 0) k0 (S 0 4) 0) (K 1 (S 0 4 - 1)))) (S 0 4 - 1) (S 0 2) (hx k0 % 2 ^ S 0 2) 9 (setN N (2 ^ S 0 2) (hx k0 % 2 ^ S 0 2) (N 0 (hx k0 % 2 ^ S 0 2)) (N 0 (hx k0 % 2 ^ S 0 2)))) 0) (S 0 2)) (S 0 4 - 1) nb' ((va_up (va_up K 0 (upd (K 0) (fnd (K 0) k0 (S 0 4) 0) (K 0 (S 0 4 - 1)))) 1 (upd (K 1) (fnd (K 0) k0 (S 0 4) 0) (K 1 (S 0 4 - 1)))) 0) ((va_up (va_up K 0 (upd (K 0) (fnd (K 0) k0 (S 0 4) 0) (K 0 (S 0 4 - 1)))) 1 (upd (K 1) (fnd (K 0) k0 (S 0 4) 0) (K 1 (S 0 4 - 1)))) 1) ((mgN (va_up (va_up K 0 (upd (K 0) (fnd (K 0) k0 (S 0 4) 0) (K 0 (S 0 4 - 1)))) 1 (upd (K 1) (fnd (K 0) k0 (S 0 4) 0) (K 1 (S 0 4 - 1)))) (S 0 4 - 1) (S 0 2) (hx k0 % 2 ^ S 0 2) 9 (setN N (2 ^ S 0 2) (hx k0 % 2 ^ S 0 2) (N 0 (hx k0 % 2 ^ S 0 2)) (N 0 (hx k0 % 2 ^ S 0 2)))) 0) ((mgN (va_up (va_up K 0 (upd (K 0) (fnd (K 0) k0 (S 0 4) 0) (K 0 (S 0 4 - 1)))) 1 (upd (K 1) (fnd (K 0) k0 (S 0 4) 0) (K 1 (S 0 4 - 1)))) (S 0 4 - 1) (S 0 2) (hx k0 % 2 ^ S 0 2) 9 (setN N (2 ^ S 0 2) (hx k0 % 2 ^ S 0 2) (N 0 (hx k0 % 2 ^ S 0 2)) (N 0 (hx k0 % 2 ^ S 0 2)))) 1) R' BI' BD' P' ∧ NdF ((va_up (va_up K 0 (upd (K 0) (fnd (K 0) k0 (S 0 4) 0) (K 0 (S 0 4 - 1)))) 1 (upd (K 1) (fnd (K 0) k0 (S 0 4) 0) (K 1 (S 0 4 - 1)))) 0) (S 0 4 - 1) ∧ (∃ e, e < 2 ^ hvD ((mgN (va_up (va_up K 0 (upd (K 0) (fnd (K 0) k0 (S 0 4) 0) (K 0 (S 0 4 - 1)))) 1 (upd (K 1) (fnd (K 0) k0 (S 0 4) 0) (K 1 (S 0 4 - 1)))) (S 0 4 - 1) (S 0 2) (hx k0 % 2 ^ S 0 2) 9 (setN N (2 ^ S 0 2) (hx k0 % 2 ^ S 0 2) (N 0 (hx k0 % 2 ^ S 0 2)) (N 0 (hx k0 % 2 ^ S 0 2)))) 0) (S 0 2) ∧ (mgN (va_up (va_up K 0 (upd (K 0) (fnd (K 0) k0 (S 0 4) 0) (K 0 (S 0 4 - 1)))) 1 (upd (K 1) (fnd (K 0) k0 (S 0 4) 0) (K 1 (S 0 4 - 1)))) (S 0 4 - 1) (S 0 2) (hx k0 % 2 ^ S 0 2) 9 (setN N (2 ^ S 0 2) (hx k0 % 2 ^ S 0 2) (N 0 (hx k0 % 2 ^ S 0 2)) (N 0 (hx k0 % 2 ^ S 0 2)))) 1 e = 0) ∧ OF BI BD P BI' BD' P' ∧ (∀ b, BI' 4 b < 2 ^ 31) ∧ sz ≤ sz') := by
  refine Ct.of (cc := cX2_remove) (maxL := 4) (ret := (some .int)) (L := [some (.ref (y)), some (.int (k0)), none, none]) (by decide +kernel) rfl (by simp [Value.category]) (by simp) rfl ?_
  intro p e s m args below meth c k hM
  have hab := hC.ab
  obtain ⟨hA0, hA0b, hA1, hA5, hA7, hA8⟩ := hab
  have hsz := hC.2.2.1.2
  have hpw : 2 ^ S 0 2 ≤ 2 ^ A 1 := Nat.pow_le_pow_right (by omega) hS2
  have hpA := p2le hA1
  have hpp := p2pos (S 0 2)
  have he0 : hx k0 % 2 ^ S 0 2 < 2 ^ S 0 2 := Nat.mod_lt _ hpp
  have hv := hV.1
  obtain ⟨a1, a2, a3, a4, a5, a6⟩ := hv.1 _ he0
  have hke := in_key hv k0
  have hbp : fnd (BD 0 (R 0 (hx k0 % 2 ^ S 0 2))) k0 (BI 3 (R 0 (hx k0 % 2 ^ S 0 2))) 0 < BI 3 (R 0 (hx k0 % 2 ^ S 0 2)) := (bkt_find a6 hke).mpr hf
  refine V.aload_n k dX2_remove_0 rfl ?_
  refine V.getf (v := .int (nI (A 8))) k dX2_remove_1 fl_X2_remove_50 (hC.1.1) rfl ?_
  refine V.z_eq (tgt := 10) k dX2_remove_4 (by decide) (by omega) (fun hq => ?_) (fun hq => ?_)
  · refine V.iload_n k dX2_remove_10 rfl ?_
    refine V.cS (As := [.int (k0)]) (st1 := [.int (mx k0)]) k dX2_remove_11 (c_X2_mix l w G sz k0) gX2_remove_X2_mix rfl hd_X2_mix ⟨⟨Nat.le_of_ble_eq_true rfl, Nat.le_of_ble_eq_true rfl⟩, Nat.le_of_ble_eq_true rfl, Nat.le_of_ble_eq_true rfl⟩ rfl rfl rfl (Nat.le_of_ble_eq_true rfl) rfl ?_
    refine V.istore_n (L' := [some (.ref (y)), some (.int (k0)), some (.int (mx k0)), none]) k dX2_remove_14 (Nat.le_of_ble_eq_true rfl) rfl ?_
    refine V.aload_n k dX2_remove_15 rfl ?_
    refine V.getf (v := .ref (y + 4)) k dX2_remove_16 fl_X2_remove_38 (hC.1.1) rfl ?_
    refine V.iload_n k dX2_remove_19 rfl ?_
    refine V.cV (As := [.int (mx k0)]) (ci := 1) (st1 := [.ref (R 0 (hx k0 % 2 ^ S 0 2))]) k dX2_remove_20 (c_X1_bucketOf l w (y + 4) sz G _ _ _ _ _ _ _ hC.1.2.1 (by omega) (by omega) (by omega) (mx k0)) gX2_remove_X1_bucketOf rfl rfl (hC.1.2.1.1) ⟨rfl, hd_X1_bucketOf⟩ ⟨⟨Nat.le_of_ble_eq_true rfl, Nat.le_of_ble_eq_true rfl⟩, Nat.le_of_ble_eq_true rfl, Nat.le_of_ble_eq_true rfl⟩ rfl rfl rfl (Nat.le_of_ble_eq_true rfl) rfl ?_
    refine V.iload_n k dX2_remove_23 rfl ?_
    refine V.cV (As := [.int (k0)]) (ci := 0) (st1 := [.int (nI (fnd (BD 0 (R 0 (hx k0 % 2 ^ S 0 2))) k0 (BI 3 (R 0 (hx k0 % 2 ^ S 0 2))) 0))]) k dX2_remove_24 (c_X0_placeOf_yes l w (R 0 (hx k0 % 2 ^ S 0 2)) sz G _ _ _ _ _ (hC.bk a1) a5 k0 hbp) gX2_remove_X0_placeOf rfl rfl ((hC.bk a1).1) ⟨rfl, hd_X0_placeOf⟩ ⟨⟨Nat.le_of_ble_eq_true rfl, Nat.le_of_ble_eq_true rfl⟩, Nat.le_of_ble_eq_true rfl, Nat.le_of_ble_eq_true rfl⟩ rfl rfl rfl (Nat.le_of_ble_eq_true rfl) rfl ?_
    refine V.istore_n (L' := [some (.ref (y)), some (.int (k0)), some (.int (mx k0)), some (.int (nI (fnd (BD 0 (R 0 (hx k0 % 2 ^ S 0 2))) k0 (BI 3 (R 0 (hx k0 % 2 ^ S 0 2))) 0)))]) k dX2_remove_27 (Nat.le_of_ble_eq_true rfl) rfl ?_
    refine V.iload_n k dX2_remove_28 rfl ?_
    refine V.z_ge (tgt := 35) k dX2_remove_29 (by decide) (by omega) (fun hs => ?_) (fun hs => ?_)
    · refine V.aload_n k dX2_remove_35 rfl ?_
      refine V.iload_n k dX2_remove_36 rfl ?_
      refine V.callV (As := [.int (mx k0)]) (ci := 2) k dX2_remove_37 (c_X2_changeable l w y sz A S R DB T BI BD P M G hC (mx k0) hS2 (S 0 4) (K 0) (K 1) (N 0) (N 1) hv hB4) gX2_remove_X2_changeableBucketOf rfl rfl (hC.1.1) ⟨rfl, hd_X2_changeableBucketOf⟩ ⟨⟨Nat.le_of_ble_eq_true rfl, Nat.le_of_ble_eq_true rfl⟩, Nat.le_of_ble_eq_true rfl, Nat.le_of_ble_eq_true rfl⟩ rfl rfl rfl (Nat.le_of_ble_eq_true rfl) (fun v1 G1 sz1 hp1 => ?_)
      obtain ⟨c, rfl, ⟨hz1, hz2⟩, R1, BI1, BD1, P1, hC1, hg, hb41⟩ := hp1
      have hg : CHG (S 0 2) (N 0 (hx k0 % 2 ^ S 0 2)) (hx k0 % 2 ^ S 0 2) (BI 3 (R 0 (hx k0 % 2 ^ S 0 2))) (R 0 (hx k0 % 2 ^ S 0 2)) c (R 0) R1 BI BI1 BD BD1 P P1 := hg
      have hPc := hg.2.2.1
      have hgi := hg.2.2.2.1
      refine V.stk (st' := [.ref (c)]) rfl ?_
      have hBc := hC1.bk hPc
      rw [hgi.1, hgi.2.1, hgi.2.2] at hBc
      refine V.iload_n k dX2_remove_40 rfl ?_
      refine V.callV (As := [.int (nI (fnd (BD 0 (R 0 (hx k0 % 2 ^ S 0 2))) k0 (BI 3 (R 0 (hx k0 % 2 ^ S 0 2))) 0))]) (ci := 0) k dX2_remove_41 (c_X0_drop l w c sz1 G1 _ _ _ _ _ hBc a5 (fnd (BD 0 (R 0 (hx k0 % 2 ^ S 0 2))) k0 (BI 3 (R 0 (hx k0 % 2 ^ S 0 2))) 0) hbp) gX2_remove_X0_drop rfl rfl ((hC1.bk hPc).1) ⟨rfl, hd_X0_drop⟩ ⟨⟨Nat.le_of_ble_eq_true rfl, Nat.le_of_ble_eq_true rfl⟩, Nat.le_of_ble_eq_true rfl, Nat.le_of_ble_eq_true rfl⟩ rfl rfl rfl (Nat.le_of_ble_eq_true rfl) (fun v2 G2 sz2 hp2 => ?_)
      obtain ⟨rfl, rfl, hB2, hs2⟩ := hp2
      have hC2 := hC1.bkt hPc hB2 hs2
      have hL2 := hV.rem2 hn hf hg
      have hn2 : NdF (upd (K 0) (fnd (K 0) k0 (S 0 4) 0) (K 0 (S 0 4 - 1))) (S 0 4 - 1) := by
        obtain ⟨m1, hm1⟩ : ∃ m1, S 0 4 = m1 + 1 := ⟨S 0 4 - 1, by omega⟩
        rw [hm1] at hf hn ⊢
        exact ndF_rem hf hn
      refine V.stk (st' := []) rfl ?_
      refine V.aload_n k dX2_remove_44 rfl ?_
      refine V.getf (v := .ref (y + 4)) k dX2_remove_45 fl_X2_remove_38 (hC2.1.1) rfl ?_
      refine V.dup k dX2_remove_48 rfl ?_
      refine V.getf (v := .int (nI (S 0 4))) k dX2_remove_49 fl_X2_remove_98 (hC2.1.2.1.1) rfl ?_
      refine V.iconst (v := nI 1) k dX2_remove_52 (by decide) ?_
      refine V.isub (v := (nI (S 0 4 - 1))) k dX2_remove_53 (pk_sub (by omega)) ?_
      refine V.putf (fs' := [.ref (y + 5), .ref (y + 6), .int (nI (S 0 2)), .int (nI (S 0 3)), .int (nI (S 0 4 - 1))]) k dX2_remove_54 fl_X2_remove_98 ft_X1_4 (hC2.1.2.1.1) (by first | rfl | decide) rfl (Nat.le_of_ble_eq_true rfl) rfl ?_
      have hC3 := hC2.liveG (S' := (va_up S 0 (s3 (S 0 2) (S 0 3) (S 0 4 - 1)))) (R' := va_up R 0 R1) (DB' := DB) (G' := (gup G2 (y + 4) (gO 1 [.ref (y + 5), .ref (y + 6), .int (nI (S 0 2)), .int (nI (S 0 3)), .int (nI (S 0 4 - 1))]))) ⟨gup_self _ _ _, (gup_ne _ _ (by omega)).trans hC2.1.2.1.2.1, (gup_ne _ _ (by omega)).trans hC2.1.2.1.2.2⟩ (fun j hj => va_up_ne _ _ hj) (fun _ _ => rfl) (fun _ _ => rfl) (Sm.up _ (by omega))
      generalize (gup G2 (y + 4) (gO 1 [.ref (y + 5), .ref (y + 6), .int (nI (S 0 2)), .int (nI (S 0 3)), .int (nI (S 0 4 - 1))])) = G3 at hC3 ⊢
      refine V.aload_n k dX2_remove_57 rfl ?_
      refine V.iload_n k dX2_remove_58 rfl ?_
      refine V.callV (As := [.int (mx k0)]) (ci := 2) k dX2_remove_59 (c_X2_mergeWhileEmpty l w y _ A (va_up S 0 (s3 (S 0 2) (S 0 3) (S 0 4 - 1))) (va_up R 0 R1) DB T _ _ P1 M G3 hC3 (mx k0) hS2 (setI4 hb41 (by omega)) (S 0 4 - 1) B Z0 (va_up (va_up K 0 (upd (K 0) (fnd (K 0) k0 (S 0 4) 0) (K 0 (S 0 4 - 1)))) 1 (upd (K 1) (fnd (K 0) k0 (S 0 4) 0) (K 1 (S 0 4 - 1)))) (setN N (2 ^ S 0 2) (hx k0 % 2 ^ S 0 2) (N 0 (hx k0 % 2 ^ S 0 2)) (N 0 (hx k0 % 2 ^ S 0 2))) hL2) gX2_remove_X2_mergeWhileEmpty rfl rfl (hC3.1.1) ⟨rfl, hd_X2_mergeWhileEmpty⟩ ⟨⟨Nat.le_of_ble_eq_true rfl, Nat.le_of_ble_eq_true rfl⟩, Nat.le_of_ble_eq_true rfl, Nat.le_of_ble_eq_true rfl⟩ rfl rfl rfl (Nat.le_of_ble_eq_true rfl) (fun v4 G4 sz4 hp4 => ?_)
      obtain ⟨rfl, nb4, R4, BI4, BD4, P4, hC4, hL4, hof4, hb44, hz4⟩ := hp4
      refine V.stk (st' := []) rfl ?_
      have hC5 : CS y _ A (va_up S 0 (s3 (S 0 2) nb4 (S 0 4 - 1))) (va_up R 0 R4) DB T BI4 BD4 P4 M G4 := hC4.liveG hC4.1.2.1 (fun j hj => by rw [va_up_ne _ _ hj, va_up_ne _ _ hj, va_up_ne _ _ hj]) (fun j hj => by rw [va_up_ne _ _ hj, va_up_ne _ _ hj, va_up_ne _ _ hj]) (fun _ _ => rfl) (Sm.rf _ _)
      have hL5 : LV B Z0 (S 0 2) (S 0 4 - 1) nb4 ((va_up (va_up K 0 (upd (K 0) (fnd (K 0) k0 (S 0 4) 0) (K 0 (S 0 4 - 1)))) 1 (upd (K 1) (fnd (K 0) k0 (S 0 4) 0) (K 1 (S 0 4 - 1)))) 0) ((va_up (va_up K 0 (upd (K 0) (fnd (K 0) k0 (S 0 4) 0) (K 0 (S 0 4 - 1)))) 1 (upd (K 1) (fnd (K 0) k0 (S 0 4) 0) (K 1 (S 0 4 - 1)))) 1) ((mgN (va_up (va_up K 0 (upd (K 0) (fnd (K 0) k0 (S 0 4) 0) (K 0 (S 0 4 - 1)))) 1 (upd (K 1) (fnd (K 0) k0 (S 0 4) 0) (K 1 (S 0 4 - 1)))) (S 0 4 - 1) (S 0 2) (hx k0 % 2 ^ S 0 2) 9 (setN N (2 ^ S 0 2) (hx k0 % 2 ^ S 0 2) (N 0 (hx k0 % 2 ^ S 0 2)) (N 0 (hx k0 % 2 ^ S 0 2)))) 0) ((mgN (va_up (va_up K 0 (upd (K 0) (fnd (K 0) k0 (S 0 4) 0) (K 0 (S 0 4 - 1)))) 1 (upd (K 1) (fnd (K 0) k0 (S 0 4) 0) (K 1 (S 0 4 - 1)))) (S 0 4 - 1) (S 0 2) (hx k0 % 2 ^ S 0 2) 9 (setN N (2 ^ S 0 2) (hx k0 % 2 ^ S 0 2) (N 0 (hx k0 % 2 ^ S 0 2)) (N 0 (hx k0 % 2 ^ S 0 2)))) 1) R4 BI4 BD4 P4 := hL4
      have hzz : (mgN (va_up (va_up K 0 (upd (K 0) (fnd (K 0) k0 (S 0 4) 0) (K 0 (S 0 4 - 1)))) 1 (upd (K 1) (fnd (K 0) k0 (S 0 4) 0) (K 1 (S 0 4 - 1)))) (S 0 4 - 1) (S 0 2) (hx k0 % 2 ^ S 0 2) 9 (setN N (2 ^ S 0 2) (hx k0 % 2 ^ S 0 2) (N 0 (hx k0 % 2 ^ S 0 2)) (N 0 (hx k0 % 2 ^ S 0 2)))) 1 (hx k0 % 2 ^ S 0 2) = 0 := mgN_z he0 9 _ (by rw [setN_1a, if_pos ⟨he0, rfl⟩])
      generalize (mgN (va_up (va_up K 0 (upd (K 0) (fnd (K 0) k0 (S 0 4) 0) (K 0 (S 0 4 - 1)))) 1 (upd (K 1) (fnd (K 0) k0 (S 0 4) 0) (K 1 (S 0 4 - 1)))) (S 0 4 - 1) (S 0 2) (hx k0 % 2 ^ S 0 2) 9 (setN N (2 ^ S 0 2) (hx k0 % 2 ^ S 0 2) (N 0 (hx k0 % 2 ^ S 0 2)) (N 0 (hx k0 % 2 ^ S 0 2)))) = NF at hL5 hzz ⊢
      refine V.aload_n k dX2_remove_62 rfl ?_
      refine V.getf (v := .ref (y + 4)) k dX2_remove_63 fl_X2_remove_38 (hC5.1.1) rfl ?_
      refine V.callV (As := []) (ci := 1) k dX2_remove_66 (c_X1_halveWhilePossible l w (y + 4) _ G4 (S 0 2) nb4 (S 0 4 - 1) (2 ^ A 1) (drB (A 1)) R4 (DB 0) hC5.1.2.1 (by omega) (by omega) (by omega) (NF 0) (fun j hj => by have h5 := hL5.1.1 j hj; have h6 := (hC5.bk h5.1).1; rw [h5.2.2.1] at h6; exact ⟨⟨_, h6⟩, by omega⟩) (fun j hj => by have := hC5.at (hL5.1.1 j hj).1; omega)) gX2_remove_X1_halveWhilePossible rfl rfl (hC5.1.2.1.1) ⟨rfl, hd_X1_halveWhilePossible⟩ ⟨⟨Nat.le_of_ble_eq_true rfl, Nat.le_of_ble_eq_true rfl⟩, Nat.le_of_ble_eq_true rfl, Nat.le_of_ble_eq_true rfl⟩ rfl rfl rfl (Nat.le_of_ble_eq_true rfl) (fun v6 G6 sz6 hp6 => ?_)
      obtain ⟨rfl, rfl, hS6, hs6⟩ := hp6
      have hC6 := hC5.liveG (S' := va_up S 0 (s3 (hvD (NF 0) (S 0 2)) nb4 (S 0 4 - 1))) (R' := va_up R 0 R4) (DB' := DB) hS6 (fun j hj => by rw [va_up_ne _ _ hj, va_up_ne _ _ hj]) (fun _ _ => rfl) (fun _ _ => rfl) hs6
      refine V.stk (st' := []) rfl ?_
      refine V.iconst (v := nI 0) k dX2_remove_69 (by decide) ?_
      exact V.iret k hM dX2_remove_70 (Nat.le_of_ble_eq_true rfl) (Nat.le_of_ble_eq_true rfl) (⟨rfl, nb4, R4, BI4, BD4, P4, hC6, hL5.hv, hn2, hv_zero hL5.1 he0 hzz, (OF.chg hg a1).tr hof4, hb44, by omega⟩)
    · exact absurd hs id
  · exact absurd hq (by omega)
theorem fl_X2_put_50 : FL wsX2_put RX2 50 2 8 := ⟨RX2, TX2, 9, rfl, (fun _ h => List.mem_cons_of_mem _ (List.mem_append_left _ (List.mem_append_left _ (List.mem_append_right _ h)))), by decide, List.mem_of_getElem? (i := 1) rfl, rfl⟩
theorem fl_X2_put_38 : FL wsX2_put RX2 38 2 2 := ⟨RX2, TX2, 9, rfl, (fun _ h => List.mem_cons_of_mem _ (List.mem_append_left _ (List.mem_append_left _ (List.mem_append_right _ h)))), by decide, List.mem_of_getElem? (i := 3) rfl, rfl⟩
theorem fl_X2_put_71 : FL wsX2_put RX2 71 0 3 := ⟨RX0, TX0, 5, rfl, (fun _ h => List.mem_cons_of_mem _ (List.mem_append_left _ (List.mem_append_right _ h))), by decide, List.mem_of_getElem? (i := 4) rfl, rfl⟩
theorem fl_X2_put_81 : FL wsX2_put RX2 81 0 0 := ⟨RX0, TX0, 5, rfl, (fun _ h => List.mem_cons_of_mem _ (List.mem_append_left _ (List.mem_append_right _ h))), by decide, List.mem_of_getElem? (i := 5) rfl, rfl⟩
theorem fl_X2_put_98 : FL wsX2_put RX2 98 1 4 := ⟨RX1, TX1, 5, rfl, (fun _ h => List.mem_cons_of_mem _ (List.mem_append_right _ h)), by decide, List.mem_of_getElem? (i := 7) rfl, rfl⟩
set_option maxHeartbeats 4000000 in
set_option maxRecDepth 100000 in
theorem c_X2_put_dn (l : Launch) (w : Wd) (y sz : Nat) (A : Nat → Nat) (S R DB : Nat → Nat → Nat) (T : Nat → Bool) (BI : Nat → Nat → Nat) (BD : Nat → Nat → Nat → Int32) (P : Nat → Prop) (M G : Pic) (hC : CS y sz A S R DB T BI BD P M G) (k0 v0 : Int32) (hd : A 8 = 1) : Ct l w yX2_put wsX2_put ⟨4, 51, 595, 83⟩ [.ref (y), .int (k0), .int (v0)] G sz (rt (some (.int (-2000000003))) G sz) := by
  refine Ct.of (cc := cX2_put) (maxL := 7) (ret := (some .int)) (L := [some (.ref (y)), some (.int (k0)), some (.int (v0)), none, none, none, none]) (by decide +kernel) rfl (by simp [Value.category]) (by simp) rfl ?_
  intro p e s m args below meth c k hM
  have hab := hC.ab
  obtain ⟨hA0, hA0b, hA1, hA5, hA7, hA8⟩ := hab
  have hsz := hC.2.2.1.2
  refine V.aload_n k dX2_put_0 rfl ?_
  refine V.getf (v := .int (nI (A 8))) k dX2_put_1 fl_X2_put_50 (hC.1.1) rfl ?_
  refine V.z_eq (tgt := 10) k dX2_put_4 (by decide) (by omega) (fun hq => ?_) (fun hq => ?_)
  · exact absurd hq (by omega)
  · refine V.ldc (v := (-2000000003)) k dX2_put_7 (List.mem_of_getElem? (i := 2) rfl) ?_
    exact V.iret k hM dX2_put_9 (Nat.le_of_ble_eq_true rfl) (Nat.le_of_ble_eq_true rfl) (rt_ok)
set_option maxHeartbeats 4000000 in
set_option maxRecDepth 100000 in
theorem c_X2_put_nr (l : Launch) (w : Wd) (y sz : Nat) (A : Nat → Nat) (S R DB : Nat → Nat → Nat) (T : Nat → Bool) (BI : Nat → Nat → Nat) (BD : Nat → Nat → Nat → Int32) (P : Nat → Prop) (M G : Pic) (hC : CS y sz A S R DB T BI BD P M G) (k0 v0 : Int32) (hd : A 8 = 0) (hS2 : S 0 2 ≤ A 1) (hB4 : ∀ b, BI 4 b < 2 ^ 31) (B : Nat) (Z0 : Nat → Bool) (K : Nat → Nat → Int32) (N : Nat → Nat → Nat) (hV : LV B Z0 (S 0 2) (S 0 4) (S 0 3) (K 0) (K 1) (N 0) (N 1) (R 0) BI BD P) (hn : NdF (K 0) (S 0 4)) (hf : ¬ fnd (K 0) k0 (S 0 4) 0 < S 0 4) (h15 : BI 3 (R 0 (hx k0 % 2 ^ S 0 2)) = 15) (hmb : decide (max (S 0 2) (tz (tn (dif (BD 0 (R 0 (hx k0 % 2 ^ S 0 2))) (mx k0) 15)) + 1) ≤ A 1 ∧ S 0 3 + (tz (tn (dif (BD 0 (R 0 (hx k0 % 2 ^ S 0 2))) (mx k0) 15)) + 1) - BI 0 (R 0 (hx k0 % 2 ^ S 0 2)) + drB (max (S 0 2) (tz (tn (dif (BD 0 (R 0 (hx k0 % 2 ^ S 0 2))) (mx k0) 15)) + 1)) ≤ A 0 - 2) = false) (hlt : BI 0 (R 0 (hx k0 % 2 ^ S 0 2)) ≤ tz (tn (dif (BD 0 (R 0 (hx k0 % 2 ^ S 0 2))) (mx k0) 15)) + 1) : Ct l w yX2_put wsX2_put ⟨4, 51, 595, 83⟩ [.ref (y), .int (k0), .int (v0)] G sz (rt (some (.int (-2000000001))) G sz) := by
  refine Ct.of (cc := cX2_put) (maxL := 7) (ret := (some .int)) (L := [some (.ref (y)), some (.int (k0)), some (.int (v0)), none, none, none, none]) (by decide +kernel) rfl (by simp [Value.category]) (by simp) rfl ?_
  intro p e s m args below meth c k hM
  have hab := hC.ab
  obtain ⟨hA0, hA0b, hA1, hA5, hA7, hA8⟩ := hab
  have hsz := hC.2.2.1.2
  have hpw : 2 ^ S 0 2 ≤ 2 ^ A 1 := Nat.pow_le_pow_right (by omega) hS2
  have hpA := p2le hA1
  have hpp := p2pos (S 0 2)
  have he0 : hx k0 % 2 ^ S 0 2 < 2 ^ S 0 2 := Nat.mod_lt _ hpp
  have hv := hV.1
  obtain ⟨a1, a2, a3, a4, a5, a6⟩ := hv.1 _ he0
  have hke := in_key hv k0
  have hbp : ¬ fnd (BD 0 (R 0 (hx k0 % 2 ^ S 0 2))) k0 (BI 3 (R 0 (hx k0 % 2 ^ S 0 2))) 0 < BI 3 (R 0 (hx k0 % 2 ^ S 0 2)) := fun q => hf ((bkt_find a6 hke).mp q)
  have hcf := cntF_le (N 0) (2 ^ S 0 2)
  have hnb := hV.2.1
  refine V.aload_n k dX2_put_0 rfl ?_
  refine V.getf (v := .int (nI (A 8))) k dX2_put_1 fl_X2_put_50 (hC.1.1) rfl ?_
  refine V.z_eq (tgt := 10) k dX2_put_4 (by decide) (by omega) (fun hq => ?_) (fun hq => ?_)
  · refine V.iload_n k dX2_put_10 rfl ?_
    refine V.cS (As := [.int (k0)]) (st1 := [.int (mx k0)]) k dX2_put_11 (c_X2_mix l w G sz k0) gX2_put_X2_mix rfl hd_X2_mix ⟨⟨Nat.le_of_ble_eq_true rfl, Nat.le_of_ble_eq_true rfl⟩, Nat.le_of_ble_eq_true rfl, Nat.le_of_ble_eq_true rfl⟩ rfl rfl rfl (Nat.le_of_ble_eq_true rfl) rfl ?_
    refine V.istore_n (L' := [some (.ref (y)), some (.int (k0)), some (.int (v0)), some (.int (mx k0)), none, none, none]) k dX2_put_14 (Nat.le_of_ble_eq_true rfl) rfl ?_
    refine V.aload_n k dX2_put_15 rfl ?_
    refine V.getf (v := .ref (y + 4)) k dX2_put_16 fl_X2_put_38 (hC.1.1) rfl ?_
    refine V.iload_n k dX2_put_19 rfl ?_
    refine V.cV (As := [.int (mx k0)]) (ci := 1) (st1 := [.ref (R 0 (hx k0 % 2 ^ S 0 2))]) k dX2_put_20 (c_X1_bucketOf l w (y + 4) sz G _ _ _ _ _ _ _ hC.1.2.1 (by omega) (by omega) (by omega) (mx k0)) gX2_put_X1_bucketOf rfl rfl (hC.1.2.1.1) ⟨rfl, hd_X1_bucketOf⟩ ⟨⟨Nat.le_of_ble_eq_true rfl, Nat.le_of_ble_eq_true rfl⟩, Nat.le_of_ble_eq_true rfl, Nat.le_of_ble_eq_true rfl⟩ rfl rfl rfl (Nat.le_of_ble_eq_true rfl) rfl ?_
    refine V.astore (L' := [some (.ref (y)), some (.int (k0)), some (.int (v0)), some (.int (mx k0)), some (.ref (R 0 (hx k0 % 2 ^ S 0 2))), none, none]) k dX2_put_23 (Nat.le_of_ble_eq_true rfl) rfl ?_
    refine V.aload k dX2_put_25 rfl ?_
    refine V.getf (v := .int (nI (BI 3 (R 0 (hx k0 % 2 ^ S 0 2))))) k dX2_put_27 fl_X2_put_71 ((hC.bk a1).1) rfl ?_
    refine V.bipush (v := nI 15) k dX2_put_30 (by decide) ?_
    refine V.n_ne (tgt := 94) k dX2_put_32 (by decide) (by omega) (by omega) (fun hc => ?_) (fun hc => ?_)
    · exact absurd h15 hc
    · refine V.aload k dX2_put_35 rfl ?_
      refine V.iload_n k dX2_put_37 rfl ?_
      refine V.cV (As := [.int (k0)]) (ci := 0) (st1 := [.int ((-1))]) k dX2_put_38 (c_X0_placeOf_no l w (R 0 (hx k0 % 2 ^ S 0 2)) sz G _ _ _ _ _ (hC.bk a1) a5 k0 hbp) gX2_put_X0_placeOf rfl rfl ((hC.bk a1).1) ⟨rfl, hd_X0_placeOf⟩ ⟨⟨Nat.le_of_ble_eq_true rfl, Nat.le_of_ble_eq_true rfl⟩, Nat.le_of_ble_eq_true rfl, Nat.le_of_ble_eq_true rfl⟩ rfl rfl rfl (Nat.le_of_ble_eq_true rfl) rfl ?_
      refine V.if_ge (tgt := 94) k dX2_put_41 (by decide) (fun hs => ?_) (fun hs => ?_)
      · exact absurd hs (by decide +kernel)
      · refine V.aload k dX2_put_44 rfl ?_
        refine V.iload_n k dX2_put_46 rfl ?_
        have hBb := hC.bk a1
        rw [h15] at hBb
        have htl := tz_le (dif (BD 0 (R 0 (hx k0 % 2 ^ S 0 2))) (mx k0) 15)
        refine V.cS (As := [.ref (R 0 (hx k0 % 2 ^ S 0 2)), .int (mx k0)]) (st1 := [.int (nI (tz (tn (dif (BD 0 (R 0 (hx k0 % 2 ^ S 0 2))) (mx k0) 15)) + 1))]) k dX2_put_47 (c_X2_localDepthWithRoom l w (R 0 (hx k0 % 2 ^ S 0 2)) sz G _ 15 _ _ _ hBb (by omega) (mx k0)) gX2_put_X2_localDepthWithRoom rfl hd_X2_localDepthWithRoom ⟨⟨Nat.le_of_ble_eq_true rfl, Nat.le_of_ble_eq_true rfl⟩, Nat.le_of_ble_eq_true rfl, Nat.le_of_ble_eq_true rfl⟩ rfl rfl rfl (Nat.le_of_ble_eq_true rfl) rfl ?_
        refine V.istore (L' := [some (.ref (y)), some (.int (k0)), some (.int (v0)), some (.int (mx k0)), some (.ref (R 0 (hx k0 % 2 ^ S 0 2))), some (.int (nI (tz (tn (dif (BD 0 (R 0 (hx k0 % 2 ^ S 0 2))) (mx k0) 15)) + 1))), none]) k dX2_put_50 (Nat.le_of_ble_eq_true rfl) rfl ?_
        refine V.aload_n k dX2_put_52 rfl ?_
        refine V.aload k dX2_put_53 rfl ?_
        refine V.getf (v := .int (nI (BI 0 (R 0 (hx k0 % 2 ^ S 0 2))))) k dX2_put_55 fl_X2_put_81 ((hC.bk a1).1) rfl ?_
        refine V.iload k dX2_put_58 rfl ?_
        refine V.cV (As := [.int (nI (BI 0 (R 0 (hx k0 % 2 ^ S 0 2)))), .int (nI (tz (tn (dif (BD 0 (R 0 (hx k0 % 2 ^ S 0 2))) (mx k0) 15)) + 1))]) (ci := 2) (st1 := [.int (bI (decide (max (S 0 2) (tz (tn (dif (BD 0 (R 0 (hx k0 % 2 ^ S 0 2))) (mx k0) 15)) + 1) ≤ A 1 ∧ S 0 3 + (tz (tn (dif (BD 0 (R 0 (hx k0 % 2 ^ S 0 2))) (mx k0) 15)) + 1) - BI 0 (R 0 (hx k0 % 2 ^ S 0 2)) + drB (max (S 0 2) (tz (tn (dif (BD 0 (R 0 (hx k0 % 2 ^ S 0 2))) (mx k0) 15)) + 1)) ≤ A 0 - 2)))]) k dX2_put_60 (c_X2_mayBecome l w y sz A S R DB T BI BD P M G hC (BI 0 (R 0 (hx k0 % 2 ^ S 0 2))) (tz (tn (dif (BD 0 (R 0 (hx k0 % 2 ^ S 0 2))) (mx k0) 15)) + 1) hS2 (by omega) hlt (by omega)) gX2_put_X2_mayBecome rfl rfl (hC.1.1) ⟨rfl, hd_X2_mayBecome⟩ ⟨⟨Nat.le_of_ble_eq_true rfl, Nat.le_of_ble_eq_true rfl⟩, Nat.le_of_ble_eq_true rfl, Nat.le_of_ble_eq_true rfl⟩ rfl rfl rfl (Nat.le_of_ble_eq_true rfl) rfl ?_
        refine V.b_ne (tgt := 69) k dX2_put_63 (by decide) (fun hr => ?_) (fun hr => ?_)
        · exact absurd hr (by rw [hmb]; decide)
        · refine V.ldc (v := (-2000000001)) k dX2_put_66 (List.mem_of_getElem? (i := 6) rfl) ?_
          exact V.iret k hM dX2_put_68 (Nat.le_of_ble_eq_true rfl) (Nat.le_of_ble_eq_true rfl) (rt_ok)
  · exact absurd hq (by omega)
set_option maxHeartbeats 4000000 in
set_option maxRecDepth 100000 in
theorem c_X2_put_old (l : Launch) (w : Wd) (y sz : Nat) (A : Nat → Nat) (S R DB : Nat → Nat → Nat) (T : Nat → Bool) (BI : Nat → Nat → Nat) (BD : Nat → Nat → Nat → Int32) (P : Nat → Prop) (M G : Pic) (hC : CS y sz A S R DB T BI BD P M G) (k0 v0 : Int32) (hd : A 8 = 0) (hS2 : S 0 2 ≤ A 1) (hB4 : ∀ b, BI 4 b < 2 ^ 31) (B : Nat) (Z0 : Nat → Bool) (K : Nat → Nat → Int32) (N : Nat → Nat → Nat) (hV : LV B Z0 (S 0 2) (S 0 4) (S 0 3) (K 0) (K 1) (N 0) (N 1) (R 0) BI BD P) (hn : NdF (K 0) (S 0 4)) (hf : fnd (K 0) k0 (S 0 4) 0 < S 0 4) : Ct l w yX2_put wsX2_put ⟨4, 51, 595, 83⟩ [.ref (y), .int (k0), .int (v0)] G sz (fun v G' sz' => v = some (.int (nI 0)) ∧ ∃ R' BI' BD' P', CS y sz' A (va_up S 0 (s3 (S 0 2) (S 0 3) (S 0 4))) (va_up R 0 R') DB T BI' BD' P' M G' ∧ LV B Z0 (S 0 2) (S 0 4) (S 0 3) (K 0) (upd (K 1) (fnd (K 0) k0 (S 0 4) 0) v0) ((setN N (2 ^ S 0 2) (hx k0 % 2 ^ S 0 2) (N 0 (hx k0 % 2 ^ S 0 2)) (N 0 (hx k0 % 2 ^ S 0 2))) 0) ((setN N (2 ^ S 0 2) (hx k0 % 2 ^ S 0 2) (N 0 (hx k0 % 2 ^ S 0 2)) (N 0 (hx k0 % 2 ^ S 0 2))) 1) R' BI' BD' P' ∧ OF BI BD P BI' BD' P' ∧ (∀ b, BI' 4 b < 2 ^ 31) ∧ sz ≤ sz') := by
  refine Ct.of (cc := cX2_put) (maxL := 7) (ret := (some .int)) (L := [some (.ref (y)), some (.int (k0)), some (.int (v0)), none, none, none, none]) (by decide +kernel) rfl (by simp [Value.category]) (by simp) rfl ?_
  intro p e s m args below meth c k hM
  have hab := hC.ab
  obtain ⟨hA0, hA0b, hA1, hA5, hA7, hA8⟩ := hab
  have hsz := hC.2.2.1.2
  have hpw : 2 ^ S 0 2 ≤ 2 ^ A 1 := Nat.pow_le_pow_right (by omega) hS2
  have hpA := p2le hA1
  have hpp := p2pos (S 0 2)
  have he0 : hx k0 % 2 ^ S 0 2 < 2 ^ S 0 2 := Nat.mod_lt _ hpp
  have hv := hV.1
  obtain ⟨a1, a2, a3, a4, a5, a6⟩ := hv.1 _ he0
  have hke := in_key hv k0
  have hbp : fnd (BD 0 (R 0 (hx k0 % 2 ^ S 0 2))) k0 (BI 3 (R 0 (hx k0 % 2 ^ S 0 2))) 0 < BI 3 (R 0 (hx k0 % 2 ^ S 0 2)) := (bkt_find a6 hke).mpr hf
  have rest : V p l e ⟨4, 51, 595, 83⟩ s m args below meth c w G sz 0 0 (mQ w below args s ⟨4, 51, 595, 83⟩ (fun v G' sz' => v = some (.int (nI 0)) ∧ ∃ R' BI' BD' P', CS y sz' A (va_up S 0 (s3 (S 0 2) (S 0 3) (S 0 4))) (va_up R 0 R') DB T BI' BD' P' M G' ∧ LV B Z0 (S 0 2) (S 0 4) (S 0 3) (K 0) (upd (K 1) (fnd (K 0) k0 (S 0 4) 0) v0) ((setN N (2 ^ S 0 2) (hx k0 % 2 ^ S 0 2) (N 0 (hx k0 % 2 ^ S 0 2)) (N 0 (hx k0 % 2 ^ S 0 2))) 0) ((setN N (2 ^ S 0 2) (hx k0 % 2 ^ S 0 2) (N 0 (hx k0 % 2 ^ S 0 2)) (N 0 (hx k0 % 2 ^ S 0 2))) 1) R' BI' BD' P' ∧ OF BI BD P BI' BD' P' ∧ (∀ b, BI' 4 b < 2 ^ 31) ∧ sz ≤ sz')) 94 [some (.ref (y)), some (.int (k0)), some (.int (v0)), some (.int (mx k0)), none, none, none] [] := by
    have hC' : CS y sz A (va_up S 0 (s3 (S 0 2) (S 0 3) (S 0 4))) (va_up R 0 (R 0)) DB T BI BD P M G := hC.liveG hC.1.2.1 (fun j hj => va_up_ne _ _ hj) (fun j hj => va_up_ne _ _ hj) (fun _ _ => rfl) (Sm.rf _ _)
    have hdA := hS2
    have hb42 := hB4
    refine V.aload_n k dX2_put_94 rfl ?_
    refine V.iload_n k dX2_put_95 rfl ?_
    refine V.callV (As := [.int (mx k0)]) (ci := 2) k dX2_put_96 (c_X2_changeable l w y _ A (va_up S 0 (s3 (S 0 2) (S 0 3) (S 0 4))) (va_up R 0 (R 0)) DB T BI BD P M G hC' (mx k0) hdA (S 0 4) (K 0) (K 1) (N 0) (N 1) hV.1 hb42) gX2_put_X2_changeableBucketOf rfl rfl (hC.1.1) ⟨rfl, hd_X2_changeableBucketOf⟩ ⟨⟨Nat.le_of_ble_eq_true rfl, Nat.le_of_ble_eq_true rfl⟩, Nat.le_of_ble_eq_true rfl, Nat.le_of_ble_eq_true rfl⟩ rfl rfl rfl (Nat.le_of_ble_eq_true rfl) (fun v1 G1 sz1 hp1 => ?_)
    obtain ⟨c, rfl, ⟨hz1, hz2⟩, R1, BI1, BD1, P1, hC1, hg, hb41⟩ := hp1
    have hg : CHG (S 0 2) (N 0 (hx k0 % 2 ^ S 0 2)) (hx k0 % 2 ^ S 0 2) (BI 3 ((R 0) (hx k0 % 2 ^ S 0 2))) ((R 0) (hx k0 % 2 ^ S 0 2)) c (R 0) R1 BI BI1 BD BD1 P P1 := hg
    have hPc := hg.2.2.1
    have hgi := hg.2.2.2.1
    have hBc := hC1.bk hPc
    rw [hgi.1, hgi.2.1, hgi.2.2] at hBc
    refine V.stk (st' := [.ref (c)]) rfl ?_
    refine V.iload_n k dX2_put_99 rfl ?_
    refine V.iload_n k dX2_put_100 rfl ?_
    obtain ⟨hnf, hL3⟩ := hV.old (v := v0) hn hf hg
    refine V.callV (As := [.int (k0), .int (v0)]) (ci := 0) k dX2_put_101 (c_X0_store_old l w c sz1 G1 _ _ _ _ _ hBc a5 k0 v0 hnf) gX2_put_X0_store rfl rfl ((hC1.bk hPc).1) ⟨rfl, hd_X0_store⟩ ⟨⟨Nat.le_of_ble_eq_true rfl, Nat.le_of_ble_eq_true rfl⟩, (by dsimp only; omega), (by dsimp only; omega)⟩ rfl rfl rfl (Nat.le_of_ble_eq_true rfl) (fun v2 G2 sz2 hp2 => ?_)
    obtain ⟨rfl, rfl, hB2, hs2⟩ := hp2
    have hC2 := hC1.bkt hPc hB2 hs2
    refine V.stk (st' := [.int (nI (0))]) rfl ?_
    refine V.z_eq (tgt := 120) k dX2_put_104 (by decide) (by omega) (fun hw => ?_) (fun hw => ?_)
    · have hC3 : CS y _ A (va_up S 0 (s3 (S 0 2) (S 0 3) (S 0 4))) (va_up R 0 R1) DB T _ _ P1 M G2 := hC2.liveG hC2.1.2.1 (fun _ _ => rfl) (fun j hj => by rw [va_up_ne _ _ hj, va_up_ne _ _ hj, va_up_ne _ _ hj]) (fun _ _ => rfl) (Sm.rf _ _)
      refine V.iconst (v := nI 0) k dX2_put_120 (by decide) ?_
      exact V.iret k hM dX2_put_121 (by dsimp only; omega) (by dsimp only; omega) (⟨rfl, R1, _, _, P1, hC3, hL3, OF.chg hg a1, setI4 hb41 (by omega), by omega⟩)
    · exact absurd hw (by omega)
  refine V.aload_n k dX2_put_0 rfl ?_
  refine V.getf (v := .int (nI (A 8))) k dX2_put_1 fl_X2_put_50 (hC.1.1) rfl ?_
  refine V.z_eq (tgt := 10) k dX2_put_4 (by decide) (by omega) (fun hq => ?_) (fun hq => ?_)
  · refine V.iload_n k dX2_put_10 rfl ?_
    refine V.cS (As := [.int (k0)]) (st1 := [.int (mx k0)]) k dX2_put_11 (c_X2_mix l w G sz k0) gX2_put_X2_mix rfl hd_X2_mix ⟨⟨Nat.le_of_ble_eq_true rfl, Nat.le_of_ble_eq_true rfl⟩, Nat.le_of_ble_eq_true rfl, Nat.le_of_ble_eq_true rfl⟩ rfl rfl rfl (Nat.le_of_ble_eq_true rfl) rfl ?_
    refine V.istore_n (L' := [some (.ref (y)), some (.int (k0)), some (.int (v0)), some (.int (mx k0)), none, none, none]) k dX2_put_14 (Nat.le_of_ble_eq_true rfl) rfl ?_
    refine V.aload_n k dX2_put_15 rfl ?_
    refine V.getf (v := .ref (y + 4)) k dX2_put_16 fl_X2_put_38 (hC.1.1) rfl ?_
    refine V.iload_n k dX2_put_19 rfl ?_
    refine V.cV (As := [.int (mx k0)]) (ci := 1) (st1 := [.ref (R 0 (hx k0 % 2 ^ S 0 2))]) k dX2_put_20 (c_X1_bucketOf l w (y + 4) sz G _ _ _ _ _ _ _ hC.1.2.1 (by omega) (by omega) (by omega) (mx k0)) gX2_put_X1_bucketOf rfl rfl (hC.1.2.1.1) ⟨rfl, hd_X1_bucketOf⟩ ⟨⟨Nat.le_of_ble_eq_true rfl, Nat.le_of_ble_eq_true rfl⟩, Nat.le_of_ble_eq_true rfl, Nat.le_of_ble_eq_true rfl⟩ rfl rfl rfl (Nat.le_of_ble_eq_true rfl) rfl ?_
    refine V.astore (L' := [some (.ref (y)), some (.int (k0)), some (.int (v0)), some (.int (mx k0)), some (.ref (R 0 (hx k0 % 2 ^ S 0 2))), none, none]) k dX2_put_23 (Nat.le_of_ble_eq_true rfl) rfl ?_
    refine V.aload k dX2_put_25 rfl ?_
    refine V.getf (v := .int (nI (BI 3 (R 0 (hx k0 % 2 ^ S 0 2))))) k dX2_put_27 fl_X2_put_71 ((hC.bk a1).1) rfl ?_
    refine V.bipush (v := nI 15) k dX2_put_30 (by decide) ?_
    refine V.n_ne (tgt := 94) k dX2_put_32 (by decide) (by omega) (by omega) (fun hc => ?_) (fun hc => ?_)
    · refine V.dropL 4 (L' := [some (.ref (y)), some (.int (k0)), some (.int (v0)), some (.int (mx k0)), none, none, none]) rfl ?_
      exact rest
    · refine V.aload k dX2_put_35 rfl ?_
      refine V.iload_n k dX2_put_37 rfl ?_
      refine V.cV (As := [.int (k0)]) (ci := 0) (st1 := [.int (nI (fnd (BD 0 (R 0 (hx k0 % 2 ^ S 0 2))) k0 (BI 3 (R 0 (hx k0 % 2 ^ S 0 2))) 0))]) k dX2_put_38 (c_X0_placeOf_yes l w (R 0 (hx k0 % 2 ^ S 0 2)) sz G _ _ _ _ _ (hC.bk a1) a5 k0 hbp) gX2_put_X0_placeOf rfl rfl ((hC.bk a1).1) ⟨rfl, hd_X0_placeOf⟩ ⟨⟨Nat.le_of_ble_eq_true rfl, Nat.le_of_ble_eq_true rfl⟩, Nat.le_of_ble_eq_true rfl, Nat.le_of_ble_eq_true rfl⟩ rfl rfl rfl (Nat.le_of_ble_eq_true rfl) rfl ?_
      refine V.z_ge (tgt := 94) k dX2_put_41 (by decide) (by omega) (fun hs => ?_) (fun hs => ?_)
      · refine V.dropL 4 (L' := [some (.ref (y)), some (.int (k0)), some (.int (v0)), some (.int (mx k0)), none, none, none]) rfl ?_
        exact rest
      · exact absurd hs id
  · exact absurd hq (by omega)
set_option maxHeartbeats 4000000 in
set_option maxRecDepth 100000 in
theorem c_X2_put_room (l : Launch) (w : Wd) (y sz : Nat) (A : Nat → Nat) (S R DB : Nat → Nat → Nat) (T : Nat → Bool) (BI : Nat → Nat → Nat) (BD : Nat → Nat → Nat → Int32) (P : Nat → Prop) (M G : Pic) (hC : CS y sz A S R DB T BI BD P M G) (k0 v0 : Int32) (hd : A 8 = 0) (hS2 : S 0 2 ≤ A 1) (hB4 : ∀ b, BI 4 b < 2 ^ 31) (B : Nat) (Z0 : Nat → Bool) (K : Nat → Nat → Int32) (N : Nat → Nat → Nat) (hV : LV B Z0 (S 0 2) (S 0 4) (S 0 3) (K 0) (K 1) (N 0) (N 1) (R 0) BI BD P) (hn : NdF (K 0) (S 0 4)) (hf : ¬ fnd (K 0) k0 (S 0 4) 0 < S 0 4) (F : Nat → Nat) (hF6 : S 0 2 = F 6) (m0 : Nat) (hm0 : m0 = 0) (h15 : BI 3 (R 0 (hx k0 % 2 ^ S 0 2)) < 15) : Ct l w yX2_put wsX2_put ⟨4, 51, 595, 83⟩ [.ref (y), .int (k0), .int (v0)] G sz (fun v G' sz' => v = some (.int (nI 0)) ∧ ∃ nb' R' BI' BD' P', CS y sz' A (va_up S 0 (s3 ((itP F N k0 m0).1 6) nb' (S 0 4 + 1))) (va_up R 0 R') DB T BI' BD' P' M G' ∧ LV B Z0 ((itP F N k0 m0).1 6) (S 0 4 + 1) nb' (upd (K 0) (S 0 4) k0) (upd (K 1) (S 0 4) v0) ((setN (itP F N k0 m0).2 (2 ^ (itP F N k0 m0).1 6) (hx k0 % 2 ^ (itP F N k0 m0).1 6) ((itP F N k0 m0).2 0 (hx k0 % 2 ^ (itP F N k0 m0).1 6)) ((itP F N k0 m0).2 0 (hx k0 % 2 ^ (itP F N k0 m0).1 6))) 0) ((setN (itP F N k0 m0).2 (2 ^ (itP F N k0 m0).1 6) (hx k0 % 2 ^ (itP F N k0 m0).1 6) ((itP F N k0 m0).2 0 (hx k0 % 2 ^ (itP F N k0 m0).1 6)) ((itP F N k0 m0).2 0 (hx k0 % 2 ^ (itP F N k0 m0).1 6))) 1) R' BI' BD' P' ∧ OF BI BD P BI' BD' P' ∧ (∀ b, BI' 4 b < 2 ^ 31) ∧ sz ≤ sz') := by
  refine Ct.of (cc := cX2_put) (maxL := 7) (ret := (some .int)) (L := [some (.ref (y)), some (.int (k0)), some (.int (v0)), none, none, none, none]) (by decide +kernel) rfl (by simp [Value.category]) (by simp) rfl ?_
  intro p e s m args below meth c k hM
  subst hm0
  have hab := hC.ab
  obtain ⟨hA0, hA0b, hA1, hA5, hA7, hA8⟩ := hab
  have hsz := hC.2.2.1.2
  have hpw : 2 ^ S 0 2 ≤ 2 ^ A 1 := Nat.pow_le_pow_right (by omega) hS2
  have hpA := p2le hA1
  have hpp := p2pos (S 0 2)
  have he0 : hx k0 % 2 ^ S 0 2 < 2 ^ S 0 2 := Nat.mod_lt _ hpp
  have hv := hV.1
  obtain ⟨a1, a2, a3, a4, a5, a6⟩ := hv.1 _ he0
  have hke := in_key hv k0
  have hbp : ¬ fnd (BD 0 (R 0 (hx k0 % 2 ^ S 0 2))) k0 (BI 3 (R 0 (hx k0 % 2 ^ S 0 2))) 0 < BI 3 (R 0 (hx k0 % 2 ^ S 0 2)) := fun q => hf ((bkt_find a6 hke).mp q)
  have hcf := cntF_le (N 0) (2 ^ S 0 2)
  have hnb := hV.2.1
  have hdm : (itP F N k0 0).1 6 ≤ A 1 := by show F 6 ≤ A 1; omega
  have hlast : cnt (K 0) (hx k0) ((itP F N k0 0).2 0 (hx k0 % 2 ^ (itP F N k0 0).1 6)) (S 0 4) < 15 := by
    have := cnt_bkt (k := k0) hv
    show cnt (K 0) (hx k0) (N 0 (hx k0 % 2 ^ F 6)) (S 0 4) < 15
    rw [← hF6, this]; exact h15
  have rest : ∀ (nb2 sz2 : Nat) (Rv : Nat → Nat) (BI2 : Nat → Nat → Nat) (BD2 : Nat → Nat → Nat → Int32) (P2 : Nat → Prop) (G2 : Pic), (CS y sz2 A (va_up S 0 (s3 ((itP F N k0 0).1 6) nb2 (S 0 4))) (va_up R 0 Rv) DB T BI2 BD2 P2 M G2 ∧ LV B Z0 ((itP F N k0 0).1 6) (S 0 4) nb2 (K 0) (K 1) ((itP F N k0 0).2 0) ((itP F N k0 0).2 1) Rv BI2 BD2 P2 ∧ OF BI BD P BI2 BD2 P2 ∧ (∀ b, BI2 4 b < 2 ^ 31) ∧ sz ≤ sz2) → V p l e ⟨4, 51, 595, 83⟩ s m args below meth c w G2 sz2 48 560 (mQ w below args s ⟨4, 51, 595, 83⟩ (fun v G' sz' => v = some (.int (nI 0)) ∧ ∃ nb' R' BI' BD' P', CS y sz' A (va_up S 0 (s3 ((itP F N k0 0).1 6) nb' (S 0 4 + 1))) (va_up R 0 R') DB T BI' BD' P' M G' ∧ LV B Z0 ((itP F N k0 0).1 6) (S 0 4 + 1) nb' (upd (K 0) (S 0 4) k0) (upd (K 1) (S 0 4) v0) ((setN (itP F N k0 0).2 (2 ^ (itP F N k0 0).1 6) (hx k0 % 2 ^ (itP F N k0 0).1 6) ((itP F N k0 0).2 0 (hx k0 % 2 ^ (itP F N k0 0).1 6)) ((itP F N k0 0).2 0 (hx k0 % 2 ^ (itP F N k0 0).1 6))) 0) ((setN (itP F N k0 0).2 (2 ^ (itP F N k0 0).1 6) (hx k0 % 2 ^ (itP F N k0 0).1 6) ((itP F N k0 0).2 0 (hx k0 % 2 ^ (itP F N k0 0).1 6)) ((itP F N k0 0).2 0 (hx k0 % 2 ^ (itP F N k0 0).1 6))) 1) R' BI' BD' P' ∧ OF BI BD P BI' BD' P' ∧ (∀ b, BI' 4 b < 2 ^ 31) ∧ sz ≤ sz')) 94 [some (.ref (y)), some (.int (k0)), some (.int (v0)), some (.int (mx k0)), none, none, none] [] := by
    intro nb2 sz2 Rv BI2 BD2 P2 G2 hI
    obtain ⟨hI, hL, hof, hb42, hsz2⟩ := hI
    have he2 : hx k0 % 2 ^ (itP F N k0 0).1 6 < 2 ^ (itP F N k0 0).1 6 := Nat.mod_lt _ (p2pos _)
    have hct := cnt_bkt (k := k0) hL.1
    have hlast2 : BI2 3 (Rv (hx k0 % 2 ^ (itP F N k0 0).1 6)) < 15 := by rw [← hct]; exact hlast
    have hdA : (itP F N k0 0).1 6 ≤ A 1 := hdm
    have hbp2 := (hL.1.1 _ he2).1
    refine V.aload_n k dX2_put_94 rfl ?_
    refine V.iload_n k dX2_put_95 rfl ?_
    refine V.callV (As := [.int (mx k0)]) (ci := 2) k dX2_put_96 (c_X2_changeable l w y _ A (va_up S 0 (s3 ((itP F N k0 0).1 6) (nb2) (S 0 4))) (va_up R 0 Rv) DB T BI2 BD2 P2 M G2 hI (mx k0) hdA (S 0 4) (K 0) (K 1) ((itP F N k0 0).2 0) ((itP F N k0 0).2 1) hL.1 hb42) gX2_put_X2_changeableBucketOf rfl rfl (hI.1.1) ⟨rfl, hd_X2_changeableBucketOf⟩ ⟨⟨Nat.le_of_ble_eq_true rfl, Nat.le_of_ble_eq_true rfl⟩, Nat.le_of_ble_eq_true rfl, Nat.le_of_ble_eq_true rfl⟩ rfl rfl rfl (Nat.le_of_ble_eq_true rfl) (fun v1 G1 sz1 hp1 => ?_)
    obtain ⟨c, rfl, ⟨hz1, hz2⟩, R1, BI1, BD1, P1, hC1, hg, hb41⟩ := hp1
    have hg : CHG ((itP F N k0 0).1 6) ((itP F N k0 0).2 0 (hx k0 % 2 ^ (itP F N k0 0).1 6)) (hx k0 % 2 ^ (itP F N k0 0).1 6) (BI2 3 (Rv (hx k0 % 2 ^ (itP F N k0 0).1 6))) (Rv (hx k0 % 2 ^ (itP F N k0 0).1 6)) c Rv R1 BI2 BI1 BD2 BD1 P2 P1 := hg
    have hPc := hg.2.2.1
    have hgi := hg.2.2.2.1
    have hBc := hC1.bk hPc
    rw [hgi.1, hgi.2.1, hgi.2.2] at hBc
    refine V.stk (st' := [.ref (c)]) rfl ?_
    refine V.iload_n k dX2_put_99 rfl ?_
    refine V.iload_n k dX2_put_100 rfl ?_
    obtain ⟨hnf, hL3⟩ := hL.new (v := v0) hf (hlast2) hg
    refine V.callV (As := [.int (k0), .int (v0)]) (ci := 0) k dX2_put_101 (c_X0_store_new l w c sz1 G1 _ _ _ _ _ hBc (by omega) k0 v0 hnf (hlast2)) gX2_put_X0_store rfl rfl ((hC1.bk hPc).1) ⟨rfl, hd_X0_store⟩ ⟨⟨Nat.le_of_ble_eq_true rfl, Nat.le_of_ble_eq_true rfl⟩, (by dsimp only; omega), (by dsimp only; omega)⟩ rfl rfl rfl (Nat.le_of_ble_eq_true rfl) (fun v2 G2 sz2 hp2 => ?_)
    obtain ⟨rfl, rfl, hB2, hs2⟩ := hp2
    have hC2 := hC1.bkt hPc hB2 hs2
    refine V.stk (st' := [.int (nI (1))]) rfl ?_
    refine V.z_eq (tgt := 120) k dX2_put_104 (by decide) (by omega) (fun hw => ?_) (fun hw => ?_)
    · exact absurd hw (by omega)
    · refine V.aload_n k dX2_put_107 rfl ?_
      refine V.getf (v := .ref (y + 4)) k dX2_put_108 fl_X2_put_38 (hC2.1.1) rfl ?_
      refine V.dup k dX2_put_111 rfl ?_
      refine V.getf (v := .int (nI (S 0 4))) k dX2_put_112 fl_X2_put_98 (hC2.1.2.1.1) rfl ?_
      refine V.iconst (v := nI 1) k dX2_put_115 (by decide) ?_
      refine V.iadd (v := (nI ((S 0 4) + 1))) k dX2_put_116 (nI_add _ _) ?_
      refine V.putf (fs' := [.ref (y + 5), .ref (y + 6), .int (nI ((itP F N k0 0).1 6)), .int (nI (nb2)), .int (nI ((S 0 4) + 1))]) k dX2_put_117 fl_X2_put_98 ft_X1_4 (hC2.1.2.1.1) (by first | rfl | decide) rfl (Nat.le_of_ble_eq_true rfl) rfl ?_
      have hC3 := hC2.liveG (S' := va_up S 0 (s3 ((itP F N k0 0).1 6) (nb2) (S 0 4 + 1))) (R' := va_up R 0 R1) (DB' := DB) (G' := (gup G2 (y + 4) (gO 1 [.ref (y + 5), .ref (y + 6), .int (nI ((itP F N k0 0).1 6)), .int (nI (nb2)), .int (nI ((S 0 4) + 1))]))) ⟨gup_self _ _ _, (gup_ne _ _ (by omega)).trans hC2.1.2.1.2.1, (gup_ne _ _ (by omega)).trans hC2.1.2.1.2.2⟩ (fun j hj => by rw [va_up_ne _ _ hj, va_up_ne _ _ hj]) (fun j hj => by rw [va_up_ne _ _ hj, va_up_ne _ _ hj, va_up_ne _ _ hj]) (fun _ _ => rfl) (Sm.up _ (by omega))
      refine V.iconst (v := nI 0) k dX2_put_120 (by decide) ?_
      exact V.iret k hM dX2_put_121 (by dsimp only; omega) (by dsimp only; omega) (⟨rfl, nb2, R1, _, _, P1, hC3, hL3, hof.tr (OF.chg hg hbp2), setI4 hb41 (by omega), by omega⟩)
  refine V.aload_n k dX2_put_0 rfl ?_
  refine V.getf (v := .int (nI (A 8))) k dX2_put_1 fl_X2_put_50 (hC.1.1) rfl ?_
  refine V.z_eq (tgt := 10) k dX2_put_4 (by decide) (by omega) (fun hq => ?_) (fun hq => ?_)
  · refine V.iload_n k dX2_put_10 rfl ?_
    refine V.cS (As := [.int (k0)]) (st1 := [.int (mx k0)]) k dX2_put_11 (c_X2_mix l w G sz k0) gX2_put_X2_mix rfl hd_X2_mix ⟨⟨Nat.le_of_ble_eq_true rfl, Nat.le_of_ble_eq_true rfl⟩, Nat.le_of_ble_eq_true rfl, Nat.le_of_ble_eq_true rfl⟩ rfl rfl rfl (Nat.le_of_ble_eq_true rfl) rfl ?_
    refine V.istore_n (L' := [some (.ref (y)), some (.int (k0)), some (.int (v0)), some (.int (mx k0)), none, none, none]) k dX2_put_14 (Nat.le_of_ble_eq_true rfl) rfl ?_
    refine V.aload_n k dX2_put_15 rfl ?_
    refine V.getf (v := .ref (y + 4)) k dX2_put_16 fl_X2_put_38 (hC.1.1) rfl ?_
    refine V.iload_n k dX2_put_19 rfl ?_
    refine V.cV (As := [.int (mx k0)]) (ci := 1) (st1 := [.ref (R 0 (hx k0 % 2 ^ S 0 2))]) k dX2_put_20 (c_X1_bucketOf l w (y + 4) sz G _ _ _ _ _ _ _ hC.1.2.1 (by omega) (by omega) (by omega) (mx k0)) gX2_put_X1_bucketOf rfl rfl (hC.1.2.1.1) ⟨rfl, hd_X1_bucketOf⟩ ⟨⟨Nat.le_of_ble_eq_true rfl, Nat.le_of_ble_eq_true rfl⟩, Nat.le_of_ble_eq_true rfl, Nat.le_of_ble_eq_true rfl⟩ rfl rfl rfl (Nat.le_of_ble_eq_true rfl) rfl ?_
    refine V.astore (L' := [some (.ref (y)), some (.int (k0)), some (.int (v0)), some (.int (mx k0)), some (.ref (R 0 (hx k0 % 2 ^ S 0 2))), none, none]) k dX2_put_23 (Nat.le_of_ble_eq_true rfl) rfl ?_
    refine V.aload k dX2_put_25 rfl ?_
    refine V.getf (v := .int (nI (BI 3 (R 0 (hx k0 % 2 ^ S 0 2))))) k dX2_put_27 fl_X2_put_71 ((hC.bk a1).1) rfl ?_
    refine V.bipush (v := nI 15) k dX2_put_30 (by decide) ?_
    refine V.n_ne (tgt := 94) k dX2_put_32 (by decide) (by omega) (by omega) (fun hc => ?_) (fun hc => ?_)
    · refine V.dropL 4 (L' := [some (.ref (y)), some (.int (k0)), some (.int (v0)), some (.int (mx k0)), none, none, none]) rfl ?_
      refine V.widen (k := 48) (n := 560) (Nat.le_of_ble_eq_true rfl) (Nat.le_of_ble_eq_true rfl) ?_
      exact rest (S 0 3) sz (R 0) BI BD P G ⟨hC.liveG (by rw [va_up_self, va_up_self]; show StAt G (y + 4) (F 6) (S 0 3) (S 0 4) _ _ (R 0) (DB 0); rw [← hF6]; exact hC.1.2.1) (fun j hj => va_up_ne _ _ hj) (fun j hj => va_up_ne _ _ hj) (fun _ _ => rfl) (Sm.rf _ _), by show LV B Z0 (F 6) (S 0 4) (S 0 3) (K 0) (K 1) (N 0) (N 1) (R 0) BI BD P; rw [← hF6]; exact hV, OF.rf, hB4, Nat.le_refl _⟩
    · exact absurd h15 (by omega)
  · exact absurd hq (by omega)
set_option maxHeartbeats 4000000 in
set_option maxRecDepth 100000 in
theorem c_X2_put_split (l : Launch) (w : Wd) (y sz : Nat) (A : Nat → Nat) (S R DB : Nat → Nat → Nat) (T : Nat → Bool) (BI : Nat → Nat → Nat) (BD : Nat → Nat → Nat → Int32) (P : Nat → Prop) (M G : Pic) (hC : CS y sz A S R DB T BI BD P M G) (k0 v0 : Int32) (hd : A 8 = 0) (hS2 : S 0 2 ≤ A 1) (hB4 : ∀ b, BI 4 b < 2 ^ 31) (B : Nat) (Z0 : Nat → Bool) (K : Nat → Nat → Int32) (N : Nat → Nat → Nat) (hV : LV B Z0 (S 0 2) (S 0 4) (S 0 3) (K 0) (K 1) (N 0) (N 1) (R 0) BI BD P) (hn : NdF (K 0) (S 0 4)) (hf : ¬ fnd (K 0) k0 (S 0 4) 0 < S 0 4) (F : Nat → Nat) (hF6 : S 0 2 = F 6) (m0 : Nat) (h15 : BI 3 (R 0 (hx k0 % 2 ^ S 0 2)) = 15) (hmb : decide (max (S 0 2) (tz (tn (dif (BD 0 (R 0 (hx k0 % 2 ^ S 0 2))) (mx k0) 15)) + 1) ≤ A 1 ∧ S 0 3 + (tz (tn (dif (BD 0 (R 0 (hx k0 % 2 ^ S 0 2))) (mx k0) 15)) + 1) - BI 0 (R 0 (hx k0 % 2 ^ S 0 2)) + drB (max (S 0 2) (tz (tn (dif (BD 0 (R 0 (hx k0 % 2 ^ S 0 2))) (mx k0) 15)) + 1)) ≤ A 0 - 2) = true) (hlt : BI 0 (R 0 (hx k0 % 2 ^ S 0 2)) ≤ tz (tn (dif (BD 0 (R 0 (hx k0 % 2 ^ S 0 2))) (mx k0) 15)) + 1) (hm0 : BI 0 (R 0 (hx k0 % 2 ^ S 0 2)) + m0 = tz (tn (dif (BD 0 (R 0 (hx k0 % 2 ^ S 0 2))) (mx k0) 15)) + 1) (hlast : cnt (K 0) (hx k0) ((itP F N k0 m0).2 0 (hx k0 % 2 ^ (itP F N k0 m0).1 6)) (S 0 4) < 15) : Ct l w yX2_put wsX2_put ⟨4, 51, 595, 83⟩ [.ref (y), .int (k0), .int (v0)] G sz (fun v G' sz' => v = some (.int (nI 0)) ∧ ∃ nb' R' BI' BD' P', CS y sz' A (va_up S 0 (s3 ((itP F N k0 m0).1 6) nb' (S 0 4 + 1))) (va_up R 0 R') DB T BI' BD' P' M G' ∧ LV B Z0 ((itP F N k0 m0).1 6) (S 0 4 + 1) nb' (upd (K 0) (S 0 4) k0) (upd (K 1) (S 0 4) v0) ((setN (itP F N k0 m0).2 (2 ^ (itP F N k0 m0).1 6) (hx k0 % 2 ^ (itP F N k0 m0).1 6) ((itP F N k0 m0).2 0 (hx k0 % 2 ^ (itP F N k0 m0).1 6)) ((itP F N k0 m0).2 0 (hx k0 % 2 ^ (itP F N k0 m0).1 6))) 0) ((setN (itP F N k0 m0).2 (2 ^ (itP F N k0 m0).1 6) (hx k0 % 2 ^ (itP F N k0 m0).1 6) ((itP F N k0 m0).2 0 (hx k0 % 2 ^ (itP F N k0 m0).1 6)) ((itP F N k0 m0).2 0 (hx k0 % 2 ^ (itP F N k0 m0).1 6))) 1) R' BI' BD' P' ∧ OF BI BD P BI' BD' P' ∧ (∀ b, BI' 4 b < 2 ^ 31) ∧ sz ≤ sz') := by
  refine Ct.of (cc := cX2_put) (maxL := 7) (ret := (some .int)) (L := [some (.ref (y)), some (.int (k0)), some (.int (v0)), none, none, none, none]) (by decide +kernel) rfl (by simp [Value.category]) (by simp) rfl ?_
  intro p e s m args below meth c k hM
  have hab := hC.ab
  obtain ⟨hA0, hA0b, hA1, hA5, hA7, hA8⟩ := hab
  have hsz := hC.2.2.1.2
  have hpw : 2 ^ S 0 2 ≤ 2 ^ A 1 := Nat.pow_le_pow_right (by omega) hS2
  have hpA := p2le hA1
  have hpp := p2pos (S 0 2)
  have he0 : hx k0 % 2 ^ S 0 2 < 2 ^ S 0 2 := Nat.mod_lt _ hpp
  have hv := hV.1
  obtain ⟨a1, a2, a3, a4, a5, a6⟩ := hv.1 _ he0
  have hke := in_key hv k0
  have hbp : ¬ fnd (BD 0 (R 0 (hx k0 % 2 ^ S 0 2))) k0 (BI 3 (R 0 (hx k0 % 2 ^ S 0 2))) 0 < BI 3 (R 0 (hx k0 % 2 ^ S 0 2)) := fun q => hf ((bkt_find a6 hke).mp q)
  have hcf := cntF_le (N 0) (2 ^ S 0 2)
  have hnb := hV.2.1
  have hmb2 := of_decide_eq_true hmb
  have heb : eb F N k0 = BI 0 (R 0 (hx k0 % 2 ^ S 0 2)) := by unfold eb; rw [← hF6]; exact a3.symm
  have hit := itP_eb (F := F) (N := N) (k := k0) (by rw [heb, ← hF6]; omega)
  have hdm : (itP F N k0 m0).1 6 ≤ A 1 := by rw [(hit m0).2, heb, hm0, ← hF6]; exact hmb2.1
  have hm8 : m0 ≤ 8 := by omega
  have rest : ∀ (nb2 sz2 : Nat) (Rv : Nat → Nat) (BI2 : Nat → Nat → Nat) (BD2 : Nat → Nat → Nat → Int32) (P2 : Nat → Prop) (G2 : Pic), (CS y sz2 A (va_up S 0 (s3 ((itP F N k0 m0).1 6) nb2 (S 0 4))) (va_up R 0 Rv) DB T BI2 BD2 P2 M G2 ∧ LV B Z0 ((itP F N k0 m0).1 6) (S 0 4) nb2 (K 0) (K 1) ((itP F N k0 m0).2 0) ((itP F N k0 m0).2 1) Rv BI2 BD2 P2 ∧ OF BI BD P BI2 BD2 P2 ∧ (∀ b, BI2 4 b < 2 ^ 31) ∧ sz ≤ sz2) → V p l e ⟨4, 51, 595, 83⟩ s m args below meth c w G2 sz2 48 560 (mQ w below args s ⟨4, 51, 595, 83⟩ (fun v G' sz' => v = some (.int (nI 0)) ∧ ∃ nb' R' BI' BD' P', CS y sz' A (va_up S 0 (s3 ((itP F N k0 m0).1 6) nb' (S 0 4 + 1))) (va_up R 0 R') DB T BI' BD' P' M G' ∧ LV B Z0 ((itP F N k0 m0).1 6) (S 0 4 + 1) nb' (upd (K 0) (S 0 4) k0) (upd (K 1) (S 0 4) v0) ((setN (itP F N k0 m0).2 (2 ^ (itP F N k0 m0).1 6) (hx k0 % 2 ^ (itP F N k0 m0).1 6) ((itP F N k0 m0).2 0 (hx k0 % 2 ^ (itP F N k0 m0).1 6)) ((itP F N k0 m0).2 0 (hx k0 % 2 ^ (itP F N k0 m0).1 6))) 0) ((setN (itP F N k0 m0).2 (2 ^ (itP F N k0 m0).1 6) (hx k0 % 2 ^ (itP F N k0 m0).1 6) ((itP F N k0 m0).2 0 (hx k0 % 2 ^ (itP F N k0 m0).1 6)) ((itP F N k0 m0).2 0 (hx k0 % 2 ^ (itP F N k0 m0).1 6))) 1) R' BI' BD' P' ∧ OF BI BD P BI' BD' P' ∧ (∀ b, BI' 4 b < 2 ^ 31) ∧ sz ≤ sz')) 94 [some (.ref (y)), some (.int (k0)), some (.int (v0)), some (.int (mx k0)), none, none, none] [] := by
    intro nb2 sz2 Rv BI2 BD2 P2 G2 hI
    obtain ⟨hI, hL, hof, hb42, hsz2⟩ := hI
    have he2 : hx k0 % 2 ^ (itP F N k0 m0).1 6 < 2 ^ (itP F N k0 m0).1 6 := Nat.mod_lt _ (p2pos _)
    have hct := cnt_bkt (k := k0) hL.1
    have hlast2 : BI2 3 (Rv (hx k0 % 2 ^ (itP F N k0 m0).1 6)) < 15 := by rw [← hct]; exact hlast
    have hdA : (itP F N k0 m0).1 6 ≤ A 1 := hdm
    have hbp2 := (hL.1.1 _ he2).1
    refine V.aload_n k dX2_put_94 rfl ?_
    refine V.iload_n k dX2_put_95 rfl ?_
    refine V.callV (As := [.int (mx k0)]) (ci := 2) k dX2_put_96 (c_X2_changeable l w y _ A (va_up S 0 (s3 ((itP F N k0 m0).1 6) (nb2) (S 0 4))) (va_up R 0 Rv) DB T BI2 BD2 P2 M G2 hI (mx k0) hdA (S 0 4) (K 0) (K 1) ((itP F N k0 m0).2 0) ((itP F N k0 m0).2 1) hL.1 hb42) gX2_put_X2_changeableBucketOf rfl rfl (hI.1.1) ⟨rfl, hd_X2_changeableBucketOf⟩ ⟨⟨Nat.le_of_ble_eq_true rfl, Nat.le_of_ble_eq_true rfl⟩, Nat.le_of_ble_eq_true rfl, Nat.le_of_ble_eq_true rfl⟩ rfl rfl rfl (Nat.le_of_ble_eq_true rfl) (fun v1 G1 sz1 hp1 => ?_)
    obtain ⟨c, rfl, ⟨hz1, hz2⟩, R1, BI1, BD1, P1, hC1, hg, hb41⟩ := hp1
    have hg : CHG ((itP F N k0 m0).1 6) ((itP F N k0 m0).2 0 (hx k0 % 2 ^ (itP F N k0 m0).1 6)) (hx k0 % 2 ^ (itP F N k0 m0).1 6) (BI2 3 (Rv (hx k0 % 2 ^ (itP F N k0 m0).1 6))) (Rv (hx k0 % 2 ^ (itP F N k0 m0).1 6)) c Rv R1 BI2 BI1 BD2 BD1 P2 P1 := hg
    have hPc := hg.2.2.1
    have hgi := hg.2.2.2.1
    have hBc := hC1.bk hPc
    rw [hgi.1, hgi.2.1, hgi.2.2] at hBc
    refine V.stk (st' := [.ref (c)]) rfl ?_
    refine V.iload_n k dX2_put_99 rfl ?_
    refine V.iload_n k dX2_put_100 rfl ?_
    obtain ⟨hnf, hL3⟩ := hL.new (v := v0) hf (hlast2) hg
    refine V.callV (As := [.int (k0), .int (v0)]) (ci := 0) k dX2_put_101 (c_X0_store_new l w c sz1 G1 _ _ _ _ _ hBc (by omega) k0 v0 hnf (hlast2)) gX2_put_X0_store rfl rfl ((hC1.bk hPc).1) ⟨rfl, hd_X0_store⟩ ⟨⟨Nat.le_of_ble_eq_true rfl, Nat.le_of_ble_eq_true rfl⟩, (by dsimp only; omega), (by dsimp only; omega)⟩ rfl rfl rfl (Nat.le_of_ble_eq_true rfl) (fun v2 G2 sz2 hp2 => ?_)
    obtain ⟨rfl, rfl, hB2, hs2⟩ := hp2
    have hC2 := hC1.bkt hPc hB2 hs2
    refine V.stk (st' := [.int (nI (1))]) rfl ?_
    refine V.z_eq (tgt := 120) k dX2_put_104 (by decide) (by omega) (fun hw => ?_) (fun hw => ?_)
    · exact absurd hw (by omega)
    · refine V.aload_n k dX2_put_107 rfl ?_
      refine V.getf (v := .ref (y + 4)) k dX2_put_108 fl_X2_put_38 (hC2.1.1) rfl ?_
      refine V.dup k dX2_put_111 rfl ?_
      refine V.getf (v := .int (nI (S 0 4))) k dX2_put_112 fl_X2_put_98 (hC2.1.2.1.1) rfl ?_
      refine V.iconst (v := nI 1) k dX2_put_115 (by decide) ?_
      refine V.iadd (v := (nI ((S 0 4) + 1))) k dX2_put_116 (nI_add _ _) ?_
      refine V.putf (fs' := [.ref (y + 5), .ref (y + 6), .int (nI ((itP F N k0 m0).1 6)), .int (nI (nb2)), .int (nI ((S 0 4) + 1))]) k dX2_put_117 fl_X2_put_98 ft_X1_4 (hC2.1.2.1.1) (by first | rfl | decide) rfl (Nat.le_of_ble_eq_true rfl) rfl ?_
      have hC3 := hC2.liveG (S' := va_up S 0 (s3 ((itP F N k0 m0).1 6) (nb2) (S 0 4 + 1))) (R' := va_up R 0 R1) (DB' := DB) (G' := (gup G2 (y + 4) (gO 1 [.ref (y + 5), .ref (y + 6), .int (nI ((itP F N k0 m0).1 6)), .int (nI (nb2)), .int (nI ((S 0 4) + 1))]))) ⟨gup_self _ _ _, (gup_ne _ _ (by omega)).trans hC2.1.2.1.2.1, (gup_ne _ _ (by omega)).trans hC2.1.2.1.2.2⟩ (fun j hj => by rw [va_up_ne _ _ hj, va_up_ne _ _ hj]) (fun j hj => by rw [va_up_ne _ _ hj, va_up_ne _ _ hj, va_up_ne _ _ hj]) (fun _ _ => rfl) (Sm.up _ (by omega))
      refine V.iconst (v := nI 0) k dX2_put_120 (by decide) ?_
      exact V.iret k hM dX2_put_121 (by dsimp only; omega) (by dsimp only; omega) (⟨rfl, nb2, R1, _, _, P1, hC3, hL3, hof.tr (OF.chg hg hbp2), setI4 hb41 (by omega), by omega⟩)
  have lp : ∀ (nq i : Nat) (nb2 sz2 : Nat) (Rv : Nat → Nat) (BI2 : Nat → Nat → Nat) (BD2 : Nat → Nat → Nat → Int32) (P2 : Nat → Prop) (G2 : Pic), i ≤ m0 → m0 - i < nq → (CS y sz2 A (va_up S 0 (s3 ((itP F N k0 i).1 6) nb2 (S 0 4))) (va_up R 0 Rv) DB T BI2 BD2 P2 M G2 ∧ LV B Z0 ((itP F N k0 i).1 6) (S 0 4) nb2 (K 0) (K 1) ((itP F N k0 i).2 0) ((itP F N k0 i).2 1) Rv BI2 BD2 P2 ∧ OF BI BD P BI2 BD2 P2 ∧ (∀ b, BI2 4 b < 2 ^ 31) ∧ sz ≤ sz2) → V p l e ⟨4, 51, 595, 83⟩ s m args below meth c w G2 sz2 (6 * i) (70 * i) (mQ w below args s ⟨4, 51, 595, 83⟩ (fun v G' sz' => v = some (.int (nI 0)) ∧ ∃ nb' R' BI' BD' P', CS y sz' A (va_up S 0 (s3 ((itP F N k0 m0).1 6) nb' (S 0 4 + 1))) (va_up R 0 R') DB T BI' BD' P' M G' ∧ LV B Z0 ((itP F N k0 m0).1 6) (S 0 4 + 1) nb' (upd (K 0) (S 0 4) k0) (upd (K 1) (S 0 4) v0) ((setN (itP F N k0 m0).2 (2 ^ (itP F N k0 m0).1 6) (hx k0 % 2 ^ (itP F N k0 m0).1 6) ((itP F N k0 m0).2 0 (hx k0 % 2 ^ (itP F N k0 m0).1 6)) ((itP F N k0 m0).2 0 (hx k0 % 2 ^ (itP F N k0 m0).1 6))) 0) ((setN (itP F N k0 m0).2 (2 ^ (itP F N k0 m0).1 6) (hx k0 % 2 ^ (itP F N k0 m0).1 6) ((itP F N k0 m0).2 0 (hx k0 % 2 ^ (itP F N k0 m0).1 6)) ((itP F N k0 m0).2 0 (hx k0 % 2 ^ (itP F N k0 m0).1 6))) 1) R' BI' BD' P' ∧ OF BI BD P BI' BD' P' ∧ (∀ b, BI' 4 b < 2 ^ 31) ∧ sz ≤ sz')) 76 [some (.ref (y)), some (.int (k0)), some (.int (v0)), some (.int (mx k0)), some (.ref (R 0 (hx k0 % 2 ^ S 0 2))), some (.int (nI (tz (tn (dif (BD 0 (R 0 (hx k0 % 2 ^ S 0 2))) (mx k0) 15)) + 1))), some (.int (nI (BI 0 (R 0 (hx k0 % 2 ^ S 0 2)) + i)))] [] := by
    intro nq
    induction nq with
    | zero => intro i nb2 sz2 Rv BI2 BD2 P2 G2 h1 h2 hI; omega
    | succ nq ih =>
      intro i nb2 sz2 Rv BI2 BD2 P2 G2 h1 h2 hI
      obtain ⟨hI, hL, hof, hb42, hsz2⟩ := hI
      have htl := tz_le (dif (BD 0 (R 0 (hx k0 % 2 ^ S 0 2))) (mx k0) 15)
      refine V.iload k dX2_put_76 rfl ?_
      refine V.iload k dX2_put_78 rfl ?_
      refine V.n_ge (tgt := 94) k dX2_put_80 (by decide) (by omega) (by omega) (fun hb => ?_) (fun hb => ?_)
      · have hi : i = m0 := by omega
        subst hi
        refine V.dropL 4 (L' := [some (.ref (y)), some (.int (k0)), some (.int (v0)), some (.int (mx k0)), none, some (.int (nI (tz (tn (dif (BD 0 (R 0 (hx k0 % 2 ^ S 0 2))) (mx k0) 15)) + 1))), some (.int (nI (BI 0 (R 0 (hx k0 % 2 ^ S 0 2)) + i)))]) rfl ?_
        refine V.dropL 5 (L' := [some (.ref (y)), some (.int (k0)), some (.int (v0)), some (.int (mx k0)), none, none, some (.int (nI (BI 0 (R 0 (hx k0 % 2 ^ S 0 2)) + i)))]) rfl ?_
        refine V.dropL 6 (L' := [some (.ref (y)), some (.int (k0)), some (.int (v0)), some (.int (mx k0)), none, none, none]) rfl ?_
        refine V.widen (k := 48) (n := 560) (by omega) (by omega) ?_
        exact rest nb2 sz2 Rv BI2 BD2 P2 G2 ⟨hI, hL, hof, hb42, hsz2⟩
      · have hdi : (itP F N k0 i).1 6 ≤ A 1 := by rw [(hit i).2, heb, ← hF6]; omega
        have hei : hx k0 % 2 ^ (itP F N k0 i).1 6 < 2 ^ (itP F N k0 i).1 6 := Nat.mod_lt _ (p2pos _)
        obtain ⟨c1, c2, c3, c4, c5, c6⟩ := hL.1.1 _ hei
        have hebi : BI2 0 (Rv (hx k0 % 2 ^ (itP F N k0 i).1 6)) = BI 0 (R 0 (hx k0 % 2 ^ S 0 2)) + i := by rw [c3, ← heb]; exact (hit i).1
        have hdi2 := (hit i).2
        rw [heb, ← hF6] at hdi2
        refine V.aload_n k dX2_put_83 rfl ?_
        refine V.iload_n k dX2_put_84 rfl ?_
        refine V.callV (As := [.int (mx k0)]) (ci := 2) k dX2_put_85 (c_X2_splitBucketOf l w y sz2 A (va_up S 0 (s3 ((itP F N k0 i).1 6) nb2 (S 0 4))) (va_up R 0 Rv) DB T BI2 BD2 P2 M G2 hI (mx k0) hdi (fun e he => (hL.1.1 e he).1) c5 (by show BI2 0 (Rv (hx k0 % 2 ^ (itP F N k0 i).1 6)) ≤ (itP F N k0 i).1 6; omega) (fun hq => by have hq2 : BI2 0 (Rv (hx k0 % 2 ^ (itP F N k0 i).1 6)) = (itP F N k0 i).1 6 := hq; show (itP F N k0 i).1 6 + 1 ≤ A 1; omega)) gX2_put_X2_splitBucketOf rfl rfl (hI.1.1) ⟨rfl, hd_X2_splitBucketOf⟩ ⟨⟨Nat.le_of_ble_eq_true rfl, Nat.le_of_ble_eq_true rfl⟩, (by dsimp only; omega), (by dsimp only; omega)⟩ rfl rfl rfl (Nat.le_of_ble_eq_true rfl) (fun v1 G3 sz3 hp1 => ?_)
        obtain ⟨rfl, rfl, hC3⟩ := hp1
        obtain ⟨hsp, hL3⟩ := LV.split (S := (va_up S 0 (s3 ((itP F N k0 i).1 6) nb2 (S 0 4)))) (R := va_up R 0 Rv) (sz := sz2) (k := k0) (F := (itP F N k0 i).1) (N := (itP F N k0 i).2) rfl hL hn (by omega) (fun q hq => by have := hI.at hq; omega)
        rw [hsp] at hC3
        have hC4 := hC3.liveG (S' := va_up S 0 (s3 ((itP F N k0 (i + 1)).1 6) (nb2 + 1) (S 0 4))) (R' := va_up R 0 (spE (va_up S 0 (s3 ((itP F N k0 i).1 6) nb2 (S 0 4))) (va_up R 0 Rv) BI2 sz2 (mx k0))) (DB' := DB) hC3.1.2.1 (fun j hj => by rw [va_up_ne _ _ hj, va_up_ne _ _ hj, va_up_ne _ _ hj]) (fun j hj => by rw [va_up_ne _ _ hj, va_up_ne _ _ hj, va_up_ne _ _ hj]) (fun _ _ => rfl) (Sm.rf _ _)
        refine V.stk (st' := []) rfl ?_
        refine V.iinc (x := nI (BI 0 (R 0 (hx k0 % 2 ^ S 0 2)) + i)) (v := nI (BI 0 (R 0 (hx k0 % 2 ^ S 0 2)) + (i + 1))) (L' := [some (.ref (y)), some (.int (k0)), some (.int (v0)), some (.int (mx k0)), some (.ref (R 0 (hx k0 % 2 ^ S 0 2))), some (.int (nI (tz (tn (dif (BD 0 (R 0 (hx k0 % 2 ^ S 0 2))) (mx k0) 15)) + 1))), some (.int (nI (BI 0 (R 0 (hx k0 % 2 ^ S 0 2)) + (i + 1))))]) k dX2_put_88 rfl (nI_inc1 _) rfl ?_
        refine V.goto (tgt := 76) k dX2_put_91 (by decide) ?_
        refine V.widen (k := 6 * (i + 1)) (n := 70 * (i + 1)) (by dsimp only; omega) (by dsimp only; omega) ?_
        refine ih (i + 1) (nb2 + 1) (sz2 + 6) _ _ _ _ _ (by omega) (by omega) ⟨hC4, hL3, hof.tr (OF.of fun q hq => ⟨Or.inl (Or.inl hq), fun j => ?_⟩), setI4 (setI4 hb42 (by omega)) (by omega), by omega⟩
        have := hI.at hq
        rw [setI_ne (by omega), setI_ne (by omega), setD_ne (by omega), setD_ne (by omega)]
        exact ⟨rfl, rfl⟩
  refine V.aload_n k dX2_put_0 rfl ?_
  refine V.getf (v := .int (nI (A 8))) k dX2_put_1 fl_X2_put_50 (hC.1.1) rfl ?_
  refine V.z_eq (tgt := 10) k dX2_put_4 (by decide) (by omega) (fun hq => ?_) (fun hq => ?_)
  · refine V.iload_n k dX2_put_10 rfl ?_
    refine V.cS (As := [.int (k0)]) (st1 := [.int (mx k0)]) k dX2_put_11 (c_X2_mix l w G sz k0) gX2_put_X2_mix rfl hd_X2_mix ⟨⟨Nat.le_of_ble_eq_true rfl, Nat.le_of_ble_eq_true rfl⟩, Nat.le_of_ble_eq_true rfl, Nat.le_of_ble_eq_true rfl⟩ rfl rfl rfl (Nat.le_of_ble_eq_true rfl) rfl ?_
    refine V.istore_n (L' := [some (.ref (y)), some (.int (k0)), some (.int (v0)), some (.int (mx k0)), none, none, none]) k dX2_put_14 (Nat.le_of_ble_eq_true rfl) rfl ?_
    refine V.aload_n k dX2_put_15 rfl ?_
    refine V.getf (v := .ref (y + 4)) k dX2_put_16 fl_X2_put_38 (hC.1.1) rfl ?_
    refine V.iload_n k dX2_put_19 rfl ?_
    refine V.cV (As := [.int (mx k0)]) (ci := 1) (st1 := [.ref (R 0 (hx k0 % 2 ^ S 0 2))]) k dX2_put_20 (c_X1_bucketOf l w (y + 4) sz G _ _ _ _ _ _ _ hC.1.2.1 (by omega) (by omega) (by omega) (mx k0)) gX2_put_X1_bucketOf rfl rfl (hC.1.2.1.1) ⟨rfl, hd_X1_bucketOf⟩ ⟨⟨Nat.le_of_ble_eq_true rfl, Nat.le_of_ble_eq_true rfl⟩, Nat.le_of_ble_eq_true rfl, Nat.le_of_ble_eq_true rfl⟩ rfl rfl rfl (Nat.le_of_ble_eq_true rfl) rfl ?_
    refine V.astore (L' := [some (.ref (y)), some (.int (k0)), some (.int (v0)), some (.int (mx k0)), some (.ref (R 0 (hx k0 % 2 ^ S 0 2))), none, none]) k dX2_put_23 (Nat.le_of_ble_eq_true rfl) rfl ?_
    refine V.aload k dX2_put_25 rfl ?_
    refine V.getf (v := .int (nI (BI 3 (R 0 (hx k0 % 2 ^ S 0 2))))) k dX2_put_27 fl_X2_put_71 ((hC.bk a1).1) rfl ?_
    refine V.bipush (v := nI 15) k dX2_put_30 (by decide) ?_
    refine V.n_ne (tgt := 94) k dX2_put_32 (by decide) (by omega) (by omega) (fun hc => ?_) (fun hc => ?_)
    · exact absurd h15 hc
    · refine V.aload k dX2_put_35 rfl ?_
      refine V.iload_n k dX2_put_37 rfl ?_
      refine V.cV (As := [.int (k0)]) (ci := 0) (st1 := [.int ((-1))]) k dX2_put_38 (c_X0_placeOf_no l w (R 0 (hx k0 % 2 ^ S 0 2)) sz G _ _ _ _ _ (hC.bk a1) a5 k0 hbp) gX2_put_X0_placeOf rfl rfl ((hC.bk a1).1) ⟨rfl, hd_X0_placeOf⟩ ⟨⟨Nat.le_of_ble_eq_true rfl, Nat.le_of_ble_eq_true rfl⟩, Nat.le_of_ble_eq_true rfl, Nat.le_of_ble_eq_true rfl⟩ rfl rfl rfl (Nat.le_of_ble_eq_true rfl) rfl ?_
      refine V.if_ge (tgt := 94) k dX2_put_41 (by decide) (fun hs => ?_) (fun hs => ?_)
      · exact absurd hs (by decide +kernel)
      · refine V.aload k dX2_put_44 rfl ?_
        refine V.iload_n k dX2_put_46 rfl ?_
        have hBb := hC.bk a1
        rw [h15] at hBb
        have htl := tz_le (dif (BD 0 (R 0 (hx k0 % 2 ^ S 0 2))) (mx k0) 15)
        refine V.cS (As := [.ref (R 0 (hx k0 % 2 ^ S 0 2)), .int (mx k0)]) (st1 := [.int (nI (tz (tn (dif (BD 0 (R 0 (hx k0 % 2 ^ S 0 2))) (mx k0) 15)) + 1))]) k dX2_put_47 (c_X2_localDepthWithRoom l w (R 0 (hx k0 % 2 ^ S 0 2)) sz G _ 15 _ _ _ hBb (by omega) (mx k0)) gX2_put_X2_localDepthWithRoom rfl hd_X2_localDepthWithRoom ⟨⟨Nat.le_of_ble_eq_true rfl, Nat.le_of_ble_eq_true rfl⟩, Nat.le_of_ble_eq_true rfl, Nat.le_of_ble_eq_true rfl⟩ rfl rfl rfl (Nat.le_of_ble_eq_true rfl) rfl ?_
        refine V.istore (L' := [some (.ref (y)), some (.int (k0)), some (.int (v0)), some (.int (mx k0)), some (.ref (R 0 (hx k0 % 2 ^ S 0 2))), some (.int (nI (tz (tn (dif (BD 0 (R 0 (hx k0 % 2 ^ S 0 2))) (mx k0) 15)) + 1))), none]) k dX2_put_50 (Nat.le_of_ble_eq_true rfl) rfl ?_
        refine V.aload_n k dX2_put_52 rfl ?_
        refine V.aload k dX2_put_53 rfl ?_
        refine V.getf (v := .int (nI (BI 0 (R 0 (hx k0 % 2 ^ S 0 2))))) k dX2_put_55 fl_X2_put_81 ((hC.bk a1).1) rfl ?_
        refine V.iload k dX2_put_58 rfl ?_
        refine V.cV (As := [.int (nI (BI 0 (R 0 (hx k0 % 2 ^ S 0 2)))), .int (nI (tz (tn (dif (BD 0 (R 0 (hx k0 % 2 ^ S 0 2))) (mx k0) 15)) + 1))]) (ci := 2) (st1 := [.int (bI (decide (max (S 0 2) (tz (tn (dif (BD 0 (R 0 (hx k0 % 2 ^ S 0 2))) (mx k0) 15)) + 1) ≤ A 1 ∧ S 0 3 + (tz (tn (dif (BD 0 (R 0 (hx k0 % 2 ^ S 0 2))) (mx k0) 15)) + 1) - BI 0 (R 0 (hx k0 % 2 ^ S 0 2)) + drB (max (S 0 2) (tz (tn (dif (BD 0 (R 0 (hx k0 % 2 ^ S 0 2))) (mx k0) 15)) + 1)) ≤ A 0 - 2)))]) k dX2_put_60 (c_X2_mayBecome l w y sz A S R DB T BI BD P M G hC (BI 0 (R 0 (hx k0 % 2 ^ S 0 2))) (tz (tn (dif (BD 0 (R 0 (hx k0 % 2 ^ S 0 2))) (mx k0) 15)) + 1) hS2 (by omega) hlt (by omega)) gX2_put_X2_mayBecome rfl rfl (hC.1.1) ⟨rfl, hd_X2_mayBecome⟩ ⟨⟨Nat.le_of_ble_eq_true rfl, Nat.le_of_ble_eq_true rfl⟩, Nat.le_of_ble_eq_true rfl, Nat.le_of_ble_eq_true rfl⟩ rfl rfl rfl (Nat.le_of_ble_eq_true rfl) rfl ?_
        refine V.b_ne (tgt := 69) k dX2_put_63 (by decide) (fun hr => ?_) (fun hr => ?_)
        · refine V.aload k dX2_put_69 rfl ?_
          refine V.getf (v := .int (nI (BI 0 (R 0 (hx k0 % 2 ^ S 0 2))))) k dX2_put_71 fl_X2_put_81 ((hC.bk a1).1) rfl ?_
          refine V.istore (L' := [some (.ref (y)), some (.int (k0)), some (.int (v0)), some (.int (mx k0)), some (.ref (R 0 (hx k0 % 2 ^ S 0 2))), some (.int (nI (tz (tn (dif (BD 0 (R 0 (hx k0 % 2 ^ S 0 2))) (mx k0) 15)) + 1))), some (.int (nI (BI 0 (R 0 (hx k0 % 2 ^ S 0 2)))))]) k dX2_put_74 (Nat.le_of_ble_eq_true rfl) rfl ?_
          exact lp (m0 + 1) 0 (S 0 3) sz (R 0) BI BD P G (by omega) (by omega) ⟨hC.liveG (by rw [va_up_self, va_up_self]; show StAt G (y + 4) (F 6) (S 0 3) (S 0 4) _ _ (R 0) (DB 0); rw [← hF6]; exact hC.1.2.1) (fun j hj => va_up_ne _ _ hj) (fun j hj => va_up_ne _ _ hj) (fun _ _ => rfl) (Sm.rf _ _), by show LV B Z0 (F 6) (S 0 4) (S 0 3) (K 0) (K 1) (N 0) (N 1) (R 0) BI BD P; rw [← hF6]; exact hV, OF.rf, hB4, Nat.le_refl _⟩
        · exact absurd hr (by rw [hmb]; decide)
  · exact absurd hq (by omega)
