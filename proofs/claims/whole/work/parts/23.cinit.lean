theorem i32_eq {a b : Int32} (h1 : ¬ a < b) (h2 : ¬ b < a) : a = b := Int32.le_antisymm (Int32.not_lt.mp h2) (Int32.not_lt.mp h1)
theorem i32_asym {a b : Int32} (h1 : a < b) : ¬ b < a := fun h2 => Int32.lt_irrefl (Int32.lt_trans h1 h2)
theorem bl8_eq (b : Int32) : (if nI 8 < (if b < nI 200 then b else nI 200) then (if b < nI 200 then b else nI 200) else nI 8) = nI (bl8 b) := by
  unfold bl8
  by_cases h1 : b < nI 200
  · rw [if_pos h1]
    by_cases h2 : nI 8 < b
    · rw [if_pos h2, if_neg (i32_asym h2), if_neg (i32_asym h1), nI_tn]
    · rw [if_neg h2]
      by_cases h3 : b < nI 8
      · rw [if_pos h3]
      · rw [if_neg h3, if_neg (i32_asym h1), nI_tn, i32_eq h3 h2]
  · rw [if_neg h1, if_pos (by decide +kernel), if_neg (fun q => h1 (Int32.lt_trans q (by decide +kernel)))]
    by_cases h3 : nI 200 < b
    · rw [if_pos h3]
    · rw [if_neg h3, nI_tn, i32_eq h1 h3]
theorem md8_eq (d : Int32) : (if nI 0 < (if d < nI 8 then d else nI 8) then (if d < nI 8 then d else nI 8) else nI 0) = nI (md8 d) := by
  unfold md8
  have e0 : (0 : Int32) = nI 0 := by decide +kernel
  rw [e0]
  by_cases h1 : d < nI 8
  · rw [if_pos h1]
    by_cases h2 : nI 0 < d
    · rw [if_pos h2, if_neg (i32_asym h2), if_neg (i32_asym h1), nI_tn]
    · rw [if_neg h2]
      by_cases h3 : d < nI 0
      · rw [if_pos h3]
      · rw [if_neg h3, if_neg (i32_asym h1), nI_tn, i32_eq h3 h2]
  · rw [if_neg h1, if_pos (by decide +kernel), if_neg (fun q => h1 (Int32.lt_trans q (by decide +kernel)))]
    by_cases h3 : nI 8 < d
    · rw [if_pos h3]
    · rw [if_neg h3, nI_tn, i32_eq h1 h3]
theorem tn_small {b c : Int32} (h0 : ¬ b < 0) (h : ¬ c < b) (hc : 0 ≤ c.toInt) : tn b ≤ tn c := by
  have h1 : 0 ≤ b.toInt := by
    have := Int32.le_iff_toInt_le.mp (Int32.not_lt.mp h0)
    simpa using this
  have h2 : b.toInt ≤ c.toInt := by
    exact Int32.le_iff_toInt_le.mp (Int32.not_lt.mp h)
  have e : ∀ x : Int32, 0 ≤ x.toInt → (tn x : Int) = x.toInt := by
    intro x hx
    have h3 : x.toInt = x.toBitVec.toInt := rfl
    rw [h3] at hx ⊢
    rw [BitVec.toInt_eq_toNat_cond] at hx ⊢
    unfold tn
    have := x.toBitVec.isLt
    split at hx <;> split <;> omega
  have := e b h1
  have := e c hc
  omega
theorem bl8_le (b : Int32) : 8 ≤ bl8 b ∧ bl8 b ≤ 200 := by
  unfold bl8
  by_cases h1 : b < nI 8
  · rw [if_pos h1]; omega
  · rw [if_neg h1]
    by_cases h2 : nI 200 < b
    · rw [if_pos h2]; omega
    · rw [if_neg h2]
      have h3 := tn_small (b := b) (c := nI 200) (fun q => h1 (Int32.lt_trans q (by decide +kernel))) h2 (by decide +kernel)
      have h4 := tn_small (b := nI 8) (c := b) (by decide +kernel) h1 (by
        have := Int32.le_iff_toInt_le.mp (Int32.not_lt.mp h1)
        have e : (nI 8).toInt = 8 := by decide +kernel
        omega)
      rw [tn_nI (by omega)] at h3 h4
      exact ⟨h4, h3⟩
theorem md8_le (d : Int32) : md8 d ≤ 8 := by
  unfold md8
  by_cases h1 : d < 0
  · rw [if_pos h1]; omega
  · rw [if_neg h1]
    by_cases h2 : nI 8 < d
    · rw [if_pos h2]
      exact Nat.le_refl _
    · rw [if_neg h2]
      have h3 := tn_small (b := d) (c := nI 8) h1 h2 (by decide +kernel)
      rw [tn_nI (by omega)] at h3
      exact h3
def iA (b0 d0 : Int32) : Nat → Nat := fun j => if j = 0 then bl8 b0 else if j = 1 then md8 d0 else 0
theorem fl_X2_init_18 : FL wsX2_init RX2 18 2 0 := ⟨RX2, TX2, 9, rfl, (fun _ h => List.mem_cons_of_mem _ (List.mem_append_left _ (List.mem_append_left _ (List.mem_append_right _ h)))), by decide, List.mem_of_getElem? (i := 11) rfl, rfl⟩
theorem fl_X2_init_22 : FL wsX2_init RX2 22 2 1 := ⟨RX2, TX2, 9, rfl, (fun _ h => List.mem_cons_of_mem _ (List.mem_append_left _ (List.mem_append_left _ (List.mem_append_right _ h)))), by decide, List.mem_of_getElem? (i := 12) rfl, rfl⟩
theorem fl_X2_init_30 : FL wsX2_init RX2 30 0 4 := ⟨RX0, TX0, 5, rfl, (fun _ h => List.mem_cons_of_mem _ (List.mem_append_left _ (List.mem_append_right _ h))), by decide, List.mem_of_getElem? (i := 16) rfl, rfl⟩
theorem fl_X2_init_38 : FL wsX2_init RX2 38 2 2 := ⟨RX2, TX2, 9, rfl, (fun _ h => List.mem_cons_of_mem _ (List.mem_append_left _ (List.mem_append_left _ (List.mem_append_right _ h)))), by decide, List.mem_of_getElem? (i := 20) rfl, rfl⟩
theorem fl_X2_init_42 : FL wsX2_init RX2 42 2 3 := ⟨RX2, TX2, 9, rfl, (fun _ h => List.mem_cons_of_mem _ (List.mem_append_left _ (List.mem_append_left _ (List.mem_append_right _ h)))), by decide, List.mem_of_getElem? (i := 21) rfl, rfl⟩
theorem fl_X2_init_46 : FL wsX2_init RX2 46 2 4 := ⟨RX2, TX2, 9, rfl, (fun _ h => List.mem_cons_of_mem _ (List.mem_append_left _ (List.mem_append_left _ (List.mem_append_right _ h)))), by decide, List.mem_of_getElem? (i := 23) rfl, rfl⟩
set_option maxHeartbeats 4000000 in
set_option maxRecDepth 100000 in
theorem c_X2_init (l : Launch) (w : Wd) (host : String) (y sz : Nat) (G : Pic) (b0 d0 : Int32) (hsz : sz = y + 1) (hG : G y = some (gO 2 [.int (nI 0), .int (nI 0), .null, .null, .null, .int (nI 0), .int (nI 0), .int (nI 0), .int (nI 0)])) : CtN l w host yX2_init wsX2_init ⟨2, 14, 1044, 43⟩ [.ref (y), .int (b0), .int (d0)] G sz (fun v G' sz' => v = none ∧ sz' = y + 15 ∧ (G' y = some (xO y (iA b0 d0)) ∧ StAt G' (y + 4) 0 1 0 (2 ^ md8 d0) (drB (md8 d0)) (fun _ => y + 1) iDB ∧ StAt G' (y + 8) 0 1 0 (2 ^ md8 d0) (drB (md8 d0)) (fun _ => y + 1) iDB ∧ StAt G' (y + 11) 0 1 0 (2 ^ md8 d0) (drB (md8 d0)) (fun _ => y + 1) iDB ∧ G' (y + 7) = some (gS 2 (fun j => some (y + 8 + 3 * j))) ∧ G' (y + 14) = some (gZ (bl8 b0) (fun j => bI ((fun _ => false) j))) ∧ BkAt G' (y + 1) 0 0 2 (fun _ => 0) (fun _ => 0)) ∧ ∀ q, q < y → G' q = G q) := by
  refine CtN.of (cc := cX2_init) (maxL := 5) (ret := none) (L := [some (.ref (y)), some (.int (b0)), some (.int (d0)), none, none]) (by decide +kernel) rfl (by simp [Value.category]) (by simp) rfl ?_
  intro p e s m args below meth c k hM hN
  subst hsz
  have hmd := md8_le d0
  have hbl := bl8_le b0
  have hp := p2le hmd
  have hpp := p2pos (md8 d0)
  have hdr := drB_le hmd
  have hdr0 := drB_pos (md8 d0)
  refine V.aload_n k dX2_init_0 rfl ?_
  refine V.objInit k dX2_init_1 (List.mem_of_getElem? (i := 1) rfl) (List.mem_of_getElem? (i := 2) rfl) (List.mem_of_getElem? (i := 3) rfl) rfl (Nat.le_of_ble_eq_true rfl) (Nat.le_of_ble_eq_true rfl) ?_
  refine V.aload_n k dX2_init_4 rfl ?_
  refine V.bipush (v := nI 8) k dX2_init_5 (by decide) ?_
  refine V.sipush (v := nI 200) k dX2_init_7 (by decide) ?_
  refine V.iload_n k dX2_init_10 rfl ?_
  refine V.mmin (v := (if b0 < nI 200 then b0 else nI 200)) k dX2_init_11 (List.mem_of_getElem? (i := 4) rfl) (List.mem_of_getElem? (i := 5) rfl) (List.mem_of_getElem? (i := 6) rfl) (List.mem_of_getElem? (i := 7) rfl) rfl (Nat.le_of_ble_eq_true rfl) (Nat.le_of_ble_eq_true rfl) (Nat.le_of_ble_eq_true rfl) (Nat.le_of_ble_eq_true rfl) (rfl) ?_
  refine V.mmax (v := (nI (bl8 b0))) k dX2_init_14 (List.mem_of_getElem? (i := 8) rfl) (List.mem_of_getElem? (i := 9) rfl) (List.mem_of_getElem? (i := 6) rfl) (List.mem_of_getElem? (i := 10) rfl) rfl (Nat.le_of_ble_eq_true rfl) (Nat.le_of_ble_eq_true rfl) (Nat.le_of_ble_eq_true rfl) (Nat.le_of_ble_eq_true rfl) (bl8_eq b0) ?_
  refine V.putF (C0 := RX2) (fs' := [.int (nI (bl8 b0)), .int (nI (0)), .null, .null, .null, .int (nI (0)), .int (nI (0)), .int (nI (0)), .int (nI (0))]) k dX2_init_17 fl_X2_init_18 ft_X2_0 rfl hM.2.2 (hG) (by first | rfl | decide) rfl (Nat.le_of_ble_eq_true rfl) rfl ?_
  refine V.aload_n k dX2_init_20 rfl ?_
  refine V.iconst (v := nI 0) k dX2_init_21 (by decide) ?_
  refine V.bipush (v := nI 8) k dX2_init_22 (by decide) ?_
  refine V.iload_n k dX2_init_24 rfl ?_
  refine V.mmin (v := (if d0 < nI 8 then d0 else nI 8)) k dX2_init_25 (List.mem_of_getElem? (i := 4) rfl) (List.mem_of_getElem? (i := 5) rfl) (List.mem_of_getElem? (i := 6) rfl) (List.mem_of_getElem? (i := 7) rfl) rfl (Nat.le_of_ble_eq_true rfl) (Nat.le_of_ble_eq_true rfl) (Nat.le_of_ble_eq_true rfl) (Nat.le_of_ble_eq_true rfl) (rfl) ?_
  refine V.mmax (v := (nI (md8 d0))) k dX2_init_28 (List.mem_of_getElem? (i := 8) rfl) (List.mem_of_getElem? (i := 9) rfl) (List.mem_of_getElem? (i := 6) rfl) (List.mem_of_getElem? (i := 10) rfl) rfl (Nat.le_of_ble_eq_true rfl) (Nat.le_of_ble_eq_true rfl) (Nat.le_of_ble_eq_true rfl) (Nat.le_of_ble_eq_true rfl) (md8_eq d0) ?_
  refine V.putF (C0 := RX2) (fs' := [.int (nI (bl8 b0)), .int (nI (md8 d0)), .null, .null, .null, .int (nI (0)), .int (nI (0)), .int (nI (0)), .int (nI (0))]) k dX2_init_31 fl_X2_init_22 ft_X2_1 rfl hM.2.2 (gup_self _ _ _) (by first | rfl | decide) rfl (Nat.le_of_ble_eq_true rfl) rfl ?_
  refine V.new (ci := 0) (N := 5) (fs := [.int (nI (0)), .null, .null, .int (nI (0)), .int (nI (0))]) k dX2_init_34 rfl (fun _ h => List.mem_cons_of_mem _ (List.mem_append_left _ (List.mem_append_right _ h))) tyX0_ok (List.mem_of_getElem? (i := 13) rfl) (List.mem_of_getElem? (i := 14) rfl) (List.mem_of_getElem? (i := 15) rfl) (fun j hj => by rcases (show j = 0 ∨ j = 1 ∨ j = 2 ∨ j = 3 ∨ j = 4 by omega) with rfl | rfl | rfl | rfl | rfl <;> rfl) (Nat.le_of_ble_eq_true rfl) (Nat.le_of_ble_eq_true rfl) ?_
  refine V.dup k dX2_init_37 rfl ?_
  refine V.iconst (v := nI 0) k dX2_init_38 (by decide) ?_
  refine V.callI (As := [.int (nI (0))]) k dX2_init_39 (c_X0_init l w (y + 1) (y + 1 + 1) (gup (gup (gup G (y) (gO 2 [.int (nI (bl8 b0)), .int (nI (0)), .null, .null, .null, .int (nI (0)), .int (nI (0)), .int (nI (0)), .int (nI (0))])) (y) (gO 2 [.int (nI (bl8 b0)), .int (nI (md8 d0)), .null, .null, .null, .int (nI (0)), .int (nI (0)), .int (nI (0)), .int (nI (0))])) (y + 1) (gO 0 [.int (nI (0)), .null, .null, .int (nI (0)), .int (nI (0))])) 0 rfl (gup_self _ _ _)) gX2_init_X0_init rfl (List.mem_of_getElem? (i := 15) rfl) (List.mem_of_getElem? (i := 24) rfl) (List.mem_of_getElem? (i := 25) rfl) rfl hd_X0_init ⟨⟨Nat.le_of_ble_eq_true rfl, Nat.le_of_ble_eq_true rfl⟩, Nat.le_of_ble_eq_true rfl, Nat.le_of_ble_eq_true rfl⟩ rfl rfl rfl (Nat.le_of_ble_eq_true rfl) (fun v1 G1 sz1 hp1 => ?_)
  obtain ⟨rfl, rfl, hB1, hf1⟩ := hp1
  have hF0 : ∀ q, q < y → G1 q = G q := fun q hq => (hf1 q (by omega)).trans ((gup_ne _ _ (by omega)).trans ((gup_ne _ _ (by omega)).trans ((gup_ne _ _ (by omega)).trans (rfl))))
  have hx1 : G1 (y) = some (gO 2 [.int (nI (bl8 b0)), .int (nI (md8 d0)), .null, .null, .null, .int (nI (0)), .int (nI (0)), .int (nI (0)), .int (nI (0))]) := (hf1 _ (by omega)).trans ((gup_ne _ _ (by omega)).trans (gup_self _ _ _))
  refine V.stk (st' := [.ref (y + 1)]) rfl ?_
  refine V.astore_n (L' := [some (.ref (y)), some (.int (b0)), some (.int (d0)), some (.ref (y + 1)), none]) k dX2_init_42 (Nat.le_of_ble_eq_true rfl) rfl ?_
  refine V.aload_n k dX2_init_43 rfl ?_
  refine V.iconst (v := nI 2) k dX2_init_44 (by decide) ?_
  refine V.putf (fs' := [.int (nI (0)), .ref (y + 2), .ref (y + 3), .int (nI (0)), .int (nI (2))]) k dX2_init_45 fl_X2_init_30 ft_X0_4 (hB1.1) (by first | rfl | decide) rfl (Nat.le_of_ble_eq_true rfl) rfl ?_
  refine V.aload_n k dX2_init_48 rfl ?_
  refine V.new (ci := 1) (N := 5) (fs := [.null, .null, .int (nI (0)), .int (nI (0)), .int (nI (0))]) k dX2_init_49 rfl (fun _ h => List.mem_cons_of_mem _ (List.mem_append_right _ h)) tyX1_ok (List.mem_of_getElem? (i := 17) rfl) (List.mem_of_getElem? (i := 18) rfl) (List.mem_of_getElem? (i := 19) rfl) (fun j hj => by rcases (show j = 0 ∨ j = 1 ∨ j = 2 ∨ j = 3 ∨ j = 4 by omega) with rfl | rfl | rfl | rfl | rfl <;> rfl) (Nat.le_of_ble_eq_true rfl) (Nat.le_of_ble_eq_true rfl) ?_
  refine V.dup k dX2_init_52 rfl ?_
  refine V.aload_n k dX2_init_53 rfl ?_
  refine V.getf (v := .int (nI (md8 d0))) k dX2_init_54 fl_X2_init_22 ((gup_ne _ _ (by omega)).trans ((gup_ne _ _ (by omega)).trans (hx1))) rfl ?_
  refine V.aload_n k dX2_init_57 rfl ?_
  refine V.callIN (As := [.int (nI (md8 d0)), .ref (y + 1)]) k hN dX2_init_58 (c_X1_init l w host (y + 4) (y + 4 + 1) (gup (gup G1 (y + 1) (gO 0 [.int (nI (0)), .ref (y + 2), .ref (y + 3), .int (nI (0)), .int (nI (2))])) (y + 4) (gO 1 [.null, .null, .int (nI (0)), .int (nI (0)), .int (nI (0))])) (md8 d0) (y + 1) _ rfl (gup_self _ _ _) ((gup_ne _ _ (by omega)).trans (gup_self _ _ _)) (by omega) hmd) gX2_init_X1_init rfl (List.mem_of_getElem? (i := 19) rfl) (List.mem_of_getElem? (i := 32) rfl) (List.mem_of_getElem? (i := 33) rfl) rfl hd_X1_init ⟨⟨Nat.le_of_ble_eq_true rfl, Nat.le_of_ble_eq_true rfl⟩, Nat.le_of_ble_eq_true rfl, Nat.le_of_ble_eq_true rfl⟩ rfl rfl rfl (Nat.le_of_ble_eq_true rfl) (fun v2 G2 sz2 hp2 => ?_)
  obtain ⟨rfl, rfl, hS0, hf2⟩ := hp2
  have hF2 : ∀ q, q < y → G2 q = G q := fun q hq => (hf2 q (by omega)).trans ((gup_ne _ _ (by omega)).trans ((gup_ne _ _ (by omega)).trans (hF0 q hq)))
  have hx3 : G2 (y) = some (gO 2 [.int (nI (bl8 b0)), .int (nI (md8 d0)), .null, .null, .null, .int (nI (0)), .int (nI (0)), .int (nI (0)), .int (nI (0))]) := (hf2 _ (by omega)).trans ((gup_ne _ _ (by omega)).trans ((gup_ne _ _ (by omega)).trans (hx1)))
  have hx4 : G2 (y + 1) = some (gO 0 [.int (nI (0)), .ref (y + 2), .ref (y + 3), .int (nI (0)), .int (nI (2))]) := (hf2 _ (by omega)).trans ((gup_ne _ _ (by omega)).trans (gup_self _ _ _))
  have hx5 : G2 (y + 2) = some (gI 15 (fun _ => 0)) := (hf2 _ (by omega)).trans ((gup_ne _ _ (by omega)).trans ((gup_ne _ _ (by omega)).trans (hB1.2.1)))
  have hx6 : G2 (y + 3) = some (gI 15 (fun _ => 0)) := (hf2 _ (by omega)).trans ((gup_ne _ _ (by omega)).trans ((gup_ne _ _ (by omega)).trans (hB1.2.2)))
  refine V.stk (st' := [.ref (y + 4), .ref (y)]) rfl ?_
  refine V.putF (C0 := RX2) (fs' := [.int (nI (bl8 b0)), .int (nI (md8 d0)), .ref (y + 4), .null, .null, .int (nI (0)), .int (nI (0)), .int (nI (0)), .int (nI (0))]) k dX2_init_61 fl_X2_init_38 ft_X2_2 rfl hM.2.2 (hx3) (by first | rfl | decide) rfl (Nat.le_of_ble_eq_true rfl) rfl ?_
  refine V.aload_n k dX2_init_64 rfl ?_
  refine V.iconst (v := nI 2) k dX2_init_65 (by decide) ?_
  refine V.newS (n := 2) k dX2_init_66 rfl (List.mem_of_getElem? (i := 17) rfl) (Nat.le_of_ble_eq_true rfl) (Nat.le_of_ble_eq_true rfl) (Nat.le_of_ble_eq_true rfl) ?_
  refine V.putF (C0 := RX2) (fs' := [.int (nI (bl8 b0)), .int (nI (md8 d0)), .ref (y + 4), .ref (y + 7), .null, .int (nI (0)), .int (nI (0)), .int (nI (0)), .int (nI (0))]) k dX2_init_69 fl_X2_init_42 ft_X2_3 rfl hM.2.2 ((gup_ne _ _ (by omega)).trans (gup_self _ _ _)) (by first | rfl | decide) rfl (Nat.le_of_ble_eq_true rfl) rfl ?_
  refine V.iconst (v := nI 0) k dX2_init_72 (by decide) ?_
  refine V.istore (L' := [some (.ref (y)), some (.int (b0)), some (.int (d0)), some (.ref (y + 1)), some (.int (nI (0)))]) k dX2_init_73 (Nat.le_of_ble_eq_true rfl) rfl ?_
  refine V.iload k dX2_init_75 rfl ?_
  refine V.iconst (v := nI 2) k dX2_init_77 (by decide) ?_
  refine V.n_ge (tgt := 106) k dX2_init_78 (by decide) (by omega) (by omega) (fun hb => ?_) (fun hb => ?_)
  · exact absurd hb (by omega)
  clear hb
  refine V.aload_n k dX2_init_81 rfl ?_
  refine V.getf (v := .ref (y + 7)) k dX2_init_82 fl_X2_init_42 (gup_self _ _ _) rfl ?_
  refine V.iload k dX2_init_85 rfl ?_
  refine V.new (ci := 1) (N := 5) (fs := [.null, .null, .int (nI (0)), .int (nI (0)), .int (nI (0))]) k dX2_init_87 rfl (fun _ h => List.mem_cons_of_mem _ (List.mem_append_right _ h)) tyX1_ok (List.mem_of_getElem? (i := 17) rfl) (List.mem_of_getElem? (i := 18) rfl) (List.mem_of_getElem? (i := 19) rfl) (fun j hj => by rcases (show j = 0 ∨ j = 1 ∨ j = 2 ∨ j = 3 ∨ j = 4 by omega) with rfl | rfl | rfl | rfl | rfl <;> rfl) (Nat.le_of_ble_eq_true rfl) (Nat.le_of_ble_eq_true rfl) ?_
  refine V.dup k dX2_init_90 rfl ?_
  refine V.aload_n k dX2_init_91 rfl ?_
  refine V.getf (v := .int (nI (md8 d0))) k dX2_init_92 fl_X2_init_22 ((gup_ne _ _ (by omega)).trans (gup_self _ _ _)) rfl ?_
  refine V.aload_n k dX2_init_95 rfl ?_
  refine V.callIN (As := [.int (nI (md8 d0)), .ref (y + 1)]) k hN dX2_init_96 (c_X1_init l w host (y + 8) (y + 8 + 1) (gup (gup (gup (gup G2 (y) (gO 2 [.int (nI (bl8 b0)), .int (nI (md8 d0)), .ref (y + 4), .null, .null, .int (nI (0)), .int (nI (0)), .int (nI (0)), .int (nI (0))])) (y + 7) (gS 2 (fun _ => none))) (y) (gO 2 [.int (nI (bl8 b0)), .int (nI (md8 d0)), .ref (y + 4), .ref (y + 7), .null, .int (nI (0)), .int (nI (0)), .int (nI (0)), .int (nI (0))])) (y + 8) (gO 1 [.null, .null, .int (nI (0)), .int (nI (0)), .int (nI (0))])) (md8 d0) (y + 1) _ rfl (gup_self _ _ _) ((gup_ne _ _ (by omega)).trans ((gup_ne _ _ (by omega)).trans ((gup_ne _ _ (by omega)).trans ((gup_ne _ _ (by omega)).trans (hx4))))) (by omega) hmd) gX2_init_X1_init rfl (List.mem_of_getElem? (i := 19) rfl) (List.mem_of_getElem? (i := 32) rfl) (List.mem_of_getElem? (i := 33) rfl) rfl hd_X1_init ⟨⟨Nat.le_of_ble_eq_true rfl, Nat.le_of_ble_eq_true rfl⟩, Nat.le_of_ble_eq_true rfl, Nat.le_of_ble_eq_true rfl⟩ rfl rfl rfl (Nat.le_of_ble_eq_true rfl) (fun v3 G3 sz3 hp3 => ?_)
  obtain ⟨rfl, rfl, hS1, hf3⟩ := hp3
  have hF7 : ∀ q, q < y → G3 q = G q := fun q hq => (hf3 q (by omega)).trans ((gup_ne _ _ (by omega)).trans ((gup_ne _ _ (by omega)).trans ((gup_ne _ _ (by omega)).trans ((gup_ne _ _ (by omega)).trans (hF2 q hq)))))
  have hx8 : G3 (y) = some (gO 2 [.int (nI (bl8 b0)), .int (nI (md8 d0)), .ref (y + 4), .ref (y + 7), .null, .int (nI (0)), .int (nI (0)), .int (nI (0)), .int (nI (0))]) := (hf3 _ (by omega)).trans ((gup_ne _ _ (by omega)).trans (gup_self _ _ _))
  have hx9 : G3 (y + 1) = some (gO 0 [.int (nI (0)), .ref (y + 2), .ref (y + 3), .int (nI (0)), .int (nI (2))]) := (hf3 _ (by omega)).trans ((gup_ne _ _ (by omega)).trans ((gup_ne _ _ (by omega)).trans ((gup_ne _ _ (by omega)).trans ((gup_ne _ _ (by omega)).trans (hx4)))))
  have hx10 : G3 (y + 2) = some (gI 15 (fun _ => 0)) := (hf3 _ (by omega)).trans ((gup_ne _ _ (by omega)).trans ((gup_ne _ _ (by omega)).trans ((gup_ne _ _ (by omega)).trans ((gup_ne _ _ (by omega)).trans (hx5)))))
  have hx11 : G3 (y + 3) = some (gI 15 (fun _ => 0)) := (hf3 _ (by omega)).trans ((gup_ne _ _ (by omega)).trans ((gup_ne _ _ (by omega)).trans ((gup_ne _ _ (by omega)).trans ((gup_ne _ _ (by omega)).trans (hx6)))))
  have hx12 : G3 (y + 4) = some (gO 1 [.ref (y + 5), .ref (y + 6), .int (nI (0)), .int (nI (1)), .int (nI (0))]) := (hf3 _ (by omega)).trans ((gup_ne _ _ (by omega)).trans ((gup_ne _ _ (by omega)).trans ((gup_ne _ _ (by omega)).trans ((gup_ne _ _ (by omega)).trans (hS0.1)))))
  have hx13 : G3 (y + 5) = some (gB (2 ^ md8 d0) (fun j => some ((fun _ => y + 1) j))) := (hf3 _ (by omega)).trans ((gup_ne _ _ (by omega)).trans ((gup_ne _ _ (by omega)).trans ((gup_ne _ _ (by omega)).trans ((gup_ne _ _ (by omega)).trans (hS0.2.1)))))
  have hx14 : G3 (y + 6) = some (gI (drB (md8 d0)) (fun j => nI ((iDB) j))) := (hf3 _ (by omega)).trans ((gup_ne _ _ (by omega)).trans ((gup_ne _ _ (by omega)).trans ((gup_ne _ _ (by omega)).trans ((gup_ne _ _ (by omega)).trans (hS0.2.2)))))
  have hx15 : G3 (y + 7) = some (gS 2 (fun _ => none)) := (hf3 _ (by omega)).trans ((gup_ne _ _ (by omega)).trans ((gup_ne _ _ (by omega)).trans (gup_self _ _ _)))
  refine V.stk (st' := [.ref (y + 8), .int (nI (0)), .ref (y + 7)]) rfl ?_
  refine V.sast (f' := va_up (fun _ => none) 0 (some (y + 8))) k dX2_init_99 (hx15) (hS1.1) rfl (Nat.le_of_ble_eq_true rfl) (Nat.le_of_ble_eq_true rfl) rfl ?_
  refine V.iinc (x := (nI (0))) (v := (nI (0 + 1))) (L' := [some (.ref (y)), some (.int (b0)), some (.int (d0)), some (.ref (y + 1)), some (.int (nI (0 + 1)))]) k dX2_init_100 rfl (nI_inc1 _) rfl ?_
  refine V.goto (tgt := 75) k dX2_init_103 (by decide) ?_
  refine V.iload k dX2_init_75 rfl ?_
  refine V.iconst (v := nI 2) k dX2_init_77 (by decide) ?_
  refine V.n_ge (tgt := 106) k dX2_init_78 (by decide) (by omega) (by omega) (fun hb => ?_) (fun hb => ?_)
  · exact absurd hb (by omega)
  clear hb
  refine V.aload_n k dX2_init_81 rfl ?_
  refine V.getf (v := .ref (y + 7)) k dX2_init_82 fl_X2_init_42 ((gup_ne _ _ (by omega)).trans (hx8)) rfl ?_
  refine V.iload k dX2_init_85 rfl ?_
  refine V.new (ci := 1) (N := 5) (fs := [.null, .null, .int (nI (0)), .int (nI (0)), .int (nI (0))]) k dX2_init_87 rfl (fun _ h => List.mem_cons_of_mem _ (List.mem_append_right _ h)) tyX1_ok (List.mem_of_getElem? (i := 17) rfl) (List.mem_of_getElem? (i := 18) rfl) (List.mem_of_getElem? (i := 19) rfl) (fun j hj => by rcases (show j = 0 ∨ j = 1 ∨ j = 2 ∨ j = 3 ∨ j = 4 by omega) with rfl | rfl | rfl | rfl | rfl <;> rfl) (Nat.le_of_ble_eq_true rfl) (Nat.le_of_ble_eq_true rfl) ?_
  refine V.dup k dX2_init_90 rfl ?_
  refine V.aload_n k dX2_init_91 rfl ?_
  refine V.getf (v := .int (nI (md8 d0))) k dX2_init_92 fl_X2_init_22 ((gup_ne _ _ (by omega)).trans ((gup_ne _ _ (by omega)).trans (hx8))) rfl ?_
  refine V.aload_n k dX2_init_95 rfl ?_
  refine V.callIN (As := [.int (nI (md8 d0)), .ref (y + 1)]) k hN dX2_init_96 (c_X1_init l w host (y + 11) (y + 11 + 1) (gup (gup G3 (y + 7) (gS 2 (va_up (fun _ => none) 0 (some (y + 8))))) (y + 11) (gO 1 [.null, .null, .int (nI (0)), .int (nI (0)), .int (nI (0))])) (md8 d0) (y + 1) _ rfl (gup_self _ _ _) ((gup_ne _ _ (by omega)).trans ((gup_ne _ _ (by omega)).trans (hx9))) (by omega) hmd) gX2_init_X1_init rfl (List.mem_of_getElem? (i := 19) rfl) (List.mem_of_getElem? (i := 32) rfl) (List.mem_of_getElem? (i := 33) rfl) rfl hd_X1_init ⟨⟨Nat.le_of_ble_eq_true rfl, Nat.le_of_ble_eq_true rfl⟩, Nat.le_of_ble_eq_true rfl, Nat.le_of_ble_eq_true rfl⟩ rfl rfl rfl (Nat.le_of_ble_eq_true rfl) (fun v4 G4 sz4 hp4 => ?_)
  obtain ⟨rfl, rfl, hS2, hf4⟩ := hp4
  have hF16 : ∀ q, q < y → G4 q = G q := fun q hq => (hf4 q (by omega)).trans ((gup_ne _ _ (by omega)).trans ((gup_ne _ _ (by omega)).trans (hF7 q hq)))
  have hx17 : G4 (y) = some (gO 2 [.int (nI (bl8 b0)), .int (nI (md8 d0)), .ref (y + 4), .ref (y + 7), .null, .int (nI (0)), .int (nI (0)), .int (nI (0)), .int (nI (0))]) := (hf4 _ (by omega)).trans ((gup_ne _ _ (by omega)).trans ((gup_ne _ _ (by omega)).trans (hx8)))
  have hx18 : G4 (y + 1) = some (gO 0 [.int (nI (0)), .ref (y + 2), .ref (y + 3), .int (nI (0)), .int (nI (2))]) := (hf4 _ (by omega)).trans ((gup_ne _ _ (by omega)).trans ((gup_ne _ _ (by omega)).trans (hx9)))
  have hx19 : G4 (y + 2) = some (gI 15 (fun _ => 0)) := (hf4 _ (by omega)).trans ((gup_ne _ _ (by omega)).trans ((gup_ne _ _ (by omega)).trans (hx10)))
  have hx20 : G4 (y + 3) = some (gI 15 (fun _ => 0)) := (hf4 _ (by omega)).trans ((gup_ne _ _ (by omega)).trans ((gup_ne _ _ (by omega)).trans (hx11)))
  have hx21 : G4 (y + 4) = some (gO 1 [.ref (y + 5), .ref (y + 6), .int (nI (0)), .int (nI (1)), .int (nI (0))]) := (hf4 _ (by omega)).trans ((gup_ne _ _ (by omega)).trans ((gup_ne _ _ (by omega)).trans (hx12)))
  have hx22 : G4 (y + 5) = some (gB (2 ^ md8 d0) (fun j => some ((fun _ => y + 1) j))) := (hf4 _ (by omega)).trans ((gup_ne _ _ (by omega)).trans ((gup_ne _ _ (by omega)).trans (hx13)))
  have hx23 : G4 (y + 6) = some (gI (drB (md8 d0)) (fun j => nI ((iDB) j))) := (hf4 _ (by omega)).trans ((gup_ne _ _ (by omega)).trans ((gup_ne _ _ (by omega)).trans (hx14)))
  have hx24 : G4 (y + 7) = some (gS 2 (va_up (fun _ => none) 0 (some (y + 8)))) := (hf4 _ (by omega)).trans ((gup_ne _ _ (by omega)).trans (gup_self _ _ _))
  have hx25 : G4 (y + 8) = some (gO 1 [.ref (y + 9), .ref (y + 10), .int (nI (0)), .int (nI (1)), .int (nI (0))]) := (hf4 _ (by omega)).trans ((gup_ne _ _ (by omega)).trans ((gup_ne _ _ (by omega)).trans (hS1.1)))
  have hx26 : G4 (y + 9) = some (gB (2 ^ md8 d0) (fun j => some ((fun _ => y + 1) j))) := (hf4 _ (by omega)).trans ((gup_ne _ _ (by omega)).trans ((gup_ne _ _ (by omega)).trans (hS1.2.1)))
  have hx27 : G4 (y + 10) = some (gI (drB (md8 d0)) (fun j => nI ((iDB) j))) := (hf4 _ (by omega)).trans ((gup_ne _ _ (by omega)).trans ((gup_ne _ _ (by omega)).trans (hS1.2.2)))
  refine V.stk (st' := [.ref (y + 11), .int (nI (0 + 1)), .ref (y + 7)]) rfl ?_
  refine V.sast (f' := va_up (va_up (fun _ => none) 0 (some (y + 8))) 1 (some (y + 11))) k dX2_init_99 (hx24) (hS2.1) rfl (Nat.le_of_ble_eq_true rfl) (Nat.le_of_ble_eq_true rfl) rfl ?_
  refine V.iinc (x := (nI (0 + 1))) (v := (nI (0 + 1 + 1))) (L' := [some (.ref (y)), some (.int (b0)), some (.int (d0)), some (.ref (y + 1)), some (.int (nI (0 + 1 + 1)))]) k dX2_init_100 rfl (nI_inc1 _) rfl ?_
  refine V.goto (tgt := 75) k dX2_init_103 (by decide) ?_
  refine V.iload k dX2_init_75 rfl ?_
  refine V.iconst (v := nI 2) k dX2_init_77 (by decide) ?_
  refine V.n_ge (tgt := 106) k dX2_init_78 (by decide) (by omega) (by omega) (fun hb => ?_) (fun hb => ?_)
  · refine V.aload_n k dX2_init_106 rfl ?_
    refine V.aload_n k dX2_init_107 rfl ?_
    refine V.getf (v := .int (nI (bl8 b0))) k dX2_init_108 fl_X2_init_18 ((gup_ne _ _ (by omega)).trans (hx17)) rfl ?_
    refine V.newZ (n := bl8 b0) k dX2_init_111 rfl (List.mem_of_getElem? (i := 22) rfl) (by omega) (Nat.le_of_ble_eq_true rfl) (show 0 + 5 + 30 + 5 + 264 + 2 + 5 + 264 + 5 + 264 + bl8 b0 ≤ 1044 by omega) ?_
    refine V.putF (C0 := RX2) (fs' := [.int (nI (bl8 b0)), .int (nI (md8 d0)), .ref (y + 4), .ref (y + 7), .ref (y + 14), .int (nI (0)), .int (nI (0)), .int (nI (0)), .int (nI (0))]) k dX2_init_113 fl_X2_init_46 ft_X2_4 rfl hM.2.2 ((gup_ne _ _ (by omega)).trans ((gup_ne _ _ (by omega)).trans (hx17))) (by first | rfl | decide) rfl (Nat.le_of_ble_eq_true rfl) rfl ?_
    refine V.picS (f' := fun j => some (y + 8 + 3 * j)) ((gup_ne _ _ (by omega)).trans ((gup_ne _ _ (by omega)).trans (gup_self _ _ _))) (fun j hj => by rcases (show j = 0 ∨ j = 1 by omega) with rfl | rfl <;> rfl) ?_
    have hZ0 : StAt (gup (gup (gup (gup G4 (y + 7) (gS 2 (va_up (va_up (fun _ => none) 0 (some (y + 8))) 1 (some (y + 11))))) (y + 14) (gZ (bl8 b0) (fun _ => 0))) (y) (gO 2 [.int (nI (bl8 b0)), .int (nI (md8 d0)), .ref (y + 4), .ref (y + 7), .ref (y + 14), .int (nI (0)), .int (nI (0)), .int (nI (0)), .int (nI (0))])) (y + 7) (gS 2 (fun j => some (y + 8 + 3 * j)))) (y + 4) 0 1 0 (2 ^ md8 d0) (drB (md8 d0)) (fun _ => y + 1) iDB := ⟨(gup_ne _ _ (by omega)).trans ((gup_ne _ _ (by omega)).trans ((gup_ne _ _ (by omega)).trans ((gup_ne _ _ (by omega)).trans (hx21)))), (gup_ne _ _ (by omega)).trans ((gup_ne _ _ (by omega)).trans ((gup_ne _ _ (by omega)).trans ((gup_ne _ _ (by omega)).trans (hx22)))), (gup_ne _ _ (by omega)).trans ((gup_ne _ _ (by omega)).trans ((gup_ne _ _ (by omega)).trans ((gup_ne _ _ (by omega)).trans (hx23))))⟩
    have hZ1 : StAt (gup (gup (gup (gup G4 (y + 7) (gS 2 (va_up (va_up (fun _ => none) 0 (some (y + 8))) 1 (some (y + 11))))) (y + 14) (gZ (bl8 b0) (fun _ => 0))) (y) (gO 2 [.int (nI (bl8 b0)), .int (nI (md8 d0)), .ref (y + 4), .ref (y + 7), .ref (y + 14), .int (nI (0)), .int (nI (0)), .int (nI (0)), .int (nI (0))])) (y + 7) (gS 2 (fun j => some (y + 8 + 3 * j)))) (y + 8) 0 1 0 (2 ^ md8 d0) (drB (md8 d0)) (fun _ => y + 1) iDB := ⟨(gup_ne _ _ (by omega)).trans ((gup_ne _ _ (by omega)).trans ((gup_ne _ _ (by omega)).trans ((gup_ne _ _ (by omega)).trans (hx25)))), (gup_ne _ _ (by omega)).trans ((gup_ne _ _ (by omega)).trans ((gup_ne _ _ (by omega)).trans ((gup_ne _ _ (by omega)).trans (hx26)))), (gup_ne _ _ (by omega)).trans ((gup_ne _ _ (by omega)).trans ((gup_ne _ _ (by omega)).trans ((gup_ne _ _ (by omega)).trans (hx27))))⟩
    have hZ2 : StAt (gup (gup (gup (gup G4 (y + 7) (gS 2 (va_up (va_up (fun _ => none) 0 (some (y + 8))) 1 (some (y + 11))))) (y + 14) (gZ (bl8 b0) (fun _ => 0))) (y) (gO 2 [.int (nI (bl8 b0)), .int (nI (md8 d0)), .ref (y + 4), .ref (y + 7), .ref (y + 14), .int (nI (0)), .int (nI (0)), .int (nI (0)), .int (nI (0))])) (y + 7) (gS 2 (fun j => some (y + 8 + 3 * j)))) (y + 11) 0 1 0 (2 ^ md8 d0) (drB (md8 d0)) (fun _ => y + 1) iDB := ⟨(gup_ne _ _ (by omega)).trans ((gup_ne _ _ (by omega)).trans ((gup_ne _ _ (by omega)).trans ((gup_ne _ _ (by omega)).trans (hS2.1)))), (gup_ne _ _ (by omega)).trans ((gup_ne _ _ (by omega)).trans ((gup_ne _ _ (by omega)).trans ((gup_ne _ _ (by omega)).trans (hS2.2.1)))), (gup_ne _ _ (by omega)).trans ((gup_ne _ _ (by omega)).trans ((gup_ne _ _ (by omega)).trans ((gup_ne _ _ (by omega)).trans (hS2.2.2))))⟩
    exact V.vret k hM dX2_init_116 (Nat.le_of_ble_eq_true rfl) (show 0 + 5 + 30 + 5 + 264 + 2 + 5 + 264 + 5 + 264 + bl8 b0 ≤ 1044 by omega) (⟨rfl, rfl, ⟨(gup_ne _ _ (by omega)).trans (gup_self _ _ _), hZ0, hZ1, hZ2, gup_self _ _ _, (gup_ne _ _ (by omega)).trans ((gup_ne _ _ (by omega)).trans (gup_self _ _ _)), ⟨(gup_ne _ _ (by omega)).trans ((gup_ne _ _ (by omega)).trans ((gup_ne _ _ (by omega)).trans ((gup_ne _ _ (by omega)).trans (hx18)))), (gup_ne _ _ (by omega)).trans ((gup_ne _ _ (by omega)).trans ((gup_ne _ _ (by omega)).trans ((gup_ne _ _ (by omega)).trans (hx19)))), (gup_ne _ _ (by omega)).trans ((gup_ne _ _ (by omega)).trans ((gup_ne _ _ (by omega)).trans ((gup_ne _ _ (by omega)).trans (hx20))))⟩⟩, fun q hq => (gup_ne _ _ (by omega)).trans ((gup_ne _ _ (by omega)).trans ((gup_ne _ _ (by omega)).trans ((gup_ne _ _ (by omega)).trans (hF16 q hq))))⟩)
  · exact absurd hb (by omega)
