theorem setI4 {BI : Nat → Nat → Nat} {c l n k : Nat} (h : ∀ b, BI 4 b < 2 ^ 31) (hk : k < 2 ^ 31) : ∀ b, setI BI c l n k 4 b < 2 ^ 31 := by
  intro b
  by_cases hb : b = c
  · subst hb; rw [(@setI_self BI b l n k).2.2]; exact hk
  · rw [setI_ne hb]; exact h b
theorem cntF_pos (L : Nat → Nat) : ∀ {E : Nat}, 0 < E → 1 ≤ cntF L E
  | 0, h => absurd h (by omega)
  | E + 1, _ => by
    rw [cntF]
    by_cases hE : E = 0
    · subst hE; rw [if_pos (Nat.zero_mod _)]; omega
    · have := cntF_pos L (E := E) (by omega)
      split <;> omega
theorem LV.rem2 {B d n nb c : Nat} {Z0 : Nat → Bool} {KK VV : Nat → Int32} {N : Nat → Nat → Nat} {R0 R1 : Nat → Nat} {BI BI1 : Nat → Nat → Nat} {BD BD1 : Nat → Nat → Nat → Int32} {P P1 : Nat → Prop} {k : Int32} (h : LV B Z0 d n nb KK VV (N 0) (N 1) R0 BI BD P) (hn : NdF KK n) (hf : fnd KK k n 0 < n) (hg : CHG d (N 0 (hx k % 2 ^ d)) (hx k % 2 ^ d) (BI 3 (R0 (hx k % 2 ^ d))) (R0 (hx k % 2 ^ d)) c R0 R1 BI BI1 BD BD1 P P1) :
    LV B Z0 d (n - 1) nb (upd KK (fnd KK k n 0) (KK (n - 1))) (upd VV (fnd KK k n 0) (VV (n - 1))) (setN N (2 ^ d) (hx k % 2 ^ d) (N 0 (hx k % 2 ^ d)) (N 0 (hx k % 2 ^ d)) 0) (setN N (2 ^ d) (hx k % 2 ^ d) (N 0 (hx k % 2 ^ d)) (N 0 (hx k % 2 ^ d)) 1) R1
      (setI BI1 c (N 0 (hx k % 2 ^ d)) (BI 3 (R0 (hx k % 2 ^ d)) - 1) 0) (setD BD1 c (upd (BD1 0 c) (fnd (BD 0 (R0 (hx k % 2 ^ d))) k (BI 3 (R0 (hx k % 2 ^ d))) 0) (BD1 0 c (BI 3 (R0 (hx k % 2 ^ d)) - 1))) (upd (BD1 1 c) (fnd (BD 0 (R0 (hx k % 2 ^ d))) k (BI 3 (R0 (hx k % 2 ^ d))) 0) (BD1 1 c (BI 3 (R0 (hx k % 2 ^ d)) - 1)))) P1 := by
  obtain ⟨m, rfl⟩ : ∃ m, n = m + 1 := ⟨n - 1, by omega⟩
  exact h.rem hn hf hg
theorem c_X2_changeable (l : Launch) (w : Wd) (y sz : Nat) (A : Nat → Nat) (S R DB : Nat → Nat → Nat) (T : Nat → Bool) (BI : Nat → Nat → Nat) (BD : Nat → Nat → Nat → Int32) (P : Nat → Prop) (M G : Pic) (hC : CS y sz A S R DB T BI BD P M G) (r0 : Int32) (hS2 : S 0 2 ≤ A 1) (n : Nat) (KK VV : Nat → Int32) (L H : Nat → Nat) (hv : Vw (S 0 2) n KK VV L H (R 0) BI BD P) (hB4 : ∀ b, BI 4 b < 2 ^ 31) : Ct l w yX2_changeableBucketOf wsX2_changeableBucketOf ⟨3, 3, 35, 60⟩ [.ref (y), .int (r0)] G sz (fun v G' sz' => ∃ c, v = some (.ref c) ∧ (sz ≤ sz' ∧ sz' ≤ sz + 3) ∧ ∃ R1 BI1 BD1 P1, CS y sz' A S (va_up R 0 R1) DB T BI1 BD1 P1 M G' ∧ CHG (S 0 2) (L (tn r0 % 2 ^ S 0 2)) (tn r0 % 2 ^ S 0 2) (BI 3 (R 0 (tn r0 % 2 ^ S 0 2))) (R 0 (tn r0 % 2 ^ S 0 2)) c (R 0) R1 BI BI1 BD BD1 P P1 ∧ (∀ b, BI1 4 b < 2 ^ 31)) := by
  have hab := hC.ab.2.2.1
  have he0 : tn r0 % 2 ^ S 0 2 < 2 ^ S 0 2 := Nat.mod_lt _ (Nat.two_pow_pos _)
  obtain ⟨a1, a2, a3, a4, a5, a6⟩ := hv.1 _ he0
  by_cases hz : BI 4 (R 0 (tn r0 % 2 ^ S 0 2)) = 0
  · refine Ct.wk (c_X2_changeableBucketOf_same l w y sz A S R DB T BI BD P M G hC r0 hS2 a1 a5 (by omega) (hB4 _) hz) ?_
    rintro v G' sz' ⟨rfl, rfl, rfl⟩
    exact ⟨_, rfl, ⟨Nat.le_refl _, by omega⟩, R 0, BI, BD, P, by rw [va_up_idd]; exact hC, CHG.same hv he0 hz, hB4⟩
  · refine Ct.wk (c_X2_changeableBucketOf_copy l w y sz A S R DB T BI BD P M G hC r0 hS2 a1 a5 (by omega) (hB4 _) (by omega)) ?_
    rintro v G' sz' ⟨rfl, rfl, hC1⟩
    exact ⟨_, rfl, ⟨by omega, by omega⟩, _, _, _, _, hC1, CHG.copy hv rfl (fun q hq => by have := hC.at hq; omega), setI4 hB4 (by omega)⟩
theorem fl_X2_mergeWhileEmpty_38 : FL wsX2_mergeWhileEmpty RX2 38 2 2 := ⟨RX2, TX2, 9, rfl, (fun _ h => List.mem_cons_of_mem _ (List.mem_append_left _ (List.mem_append_left _ (List.mem_append_right _ h)))), by decide, List.mem_of_getElem? (i := 1) rfl, rfl⟩
theorem fl_X2_mergeWhileEmpty_81 : FL wsX2_mergeWhileEmpty RX2 81 0 0 := ⟨RX0, TX0, 5, rfl, (fun _ h => List.mem_cons_of_mem _ (List.mem_append_left _ (List.mem_append_right _ h))), by decide, List.mem_of_getElem? (i := 2) rfl, rfl⟩
theorem fl_X2_mergeWhileEmpty_71 : FL wsX2_mergeWhileEmpty RX2 71 0 3 := ⟨RX0, TX0, 5, rfl, (fun _ h => List.mem_cons_of_mem _ (List.mem_append_left _ (List.mem_append_right _ h))), by decide, List.mem_of_getElem? (i := 3) rfl, rfl⟩
theorem fl_X2_mergeWhileEmpty_118 : FL wsX2_mergeWhileEmpty RX2 118 1 3 := ⟨RX1, TX1, 5, rfl, (fun _ h => List.mem_cons_of_mem _ (List.mem_append_right _ h)), by decide, List.mem_of_getElem? (i := 4) rfl, rfl⟩
set_option maxHeartbeats 4000000 in
set_option maxRecDepth 100000 in
theorem c_X2_mergeWhileEmpty (l : Launch) (w : Wd) (y sz : Nat) (A : Nat → Nat) (S R DB : Nat → Nat → Nat) (T : Nat → Bool) (BI : Nat → Nat → Nat) (BD : Nat → Nat → Nat → Int32) (P : Nat → Prop) (M G : Pic) (hC : CS y sz A S R DB T BI BD P M G) (r0 : Int32) (hS2 : S 0 2 ≤ A 1) (hB4 : ∀ b, BI 4 b < 2 ^ 31) (n B : Nat) (Z0 : Nat → Bool) (K : Nat → Nat → Int32) (N : Nat → Nat → Nat) (hV : LV B Z0 (S 0 2) n (S 0 3) (K 0) (K 1) (N 0) (N 1) (R 0) BI BD P) : Ct l w yX2_mergeWhileEmpty wsX2_mergeWhileEmpty ⟨3, 24, 280, 60⟩ [.ref (y), .int (r0)] G sz (fun v G' sz' => v = none ∧ ∃ nb' R' BI' BD' P', CS y sz' A (va_up S 0 (s3 (S 0 2) nb' (S 0 4))) (va_up R 0 R') DB T BI' BD' P' M G' ∧ LV B Z0 (S 0 2) n nb' (K 0) (K 1) ((mgN K n (S 0 2) (tn r0 % 2 ^ S 0 2) 9 N) 0) ((mgN K n (S 0 2) (tn r0 % 2 ^ S 0 2) 9 N) 1) R' BI' BD' P' ∧ OF BI BD P BI' BD' P' ∧ (∀ b, BI' 4 b < 2 ^ 31) ∧ sz ≤ sz') := by
  refine Ct.of (cc := cX2_mergeWhileEmpty) (maxL := 5) (ret := none) (L := [some (.ref (y)), some (.int (r0)), none, none, none]) (by decide +kernel) rfl (by simp [Value.category]) (by simp) rfl ?_
  intro p e s m args below meth c k hM
  have hab := hC.ab
  obtain ⟨hA0, hA0b, hA1, hA5, hA7, hA8⟩ := hab
  have hsz := hC.2.2.1.2
  have hpw : 2 ^ S 0 2 ≤ 2 ^ A 1 := Nat.pow_le_pow_right (by omega) hS2
  have hpA := p2le hA1
  have hpp := p2pos (S 0 2)
  have he0 : tn r0 % 2 ^ S 0 2 < 2 ^ S 0 2 := Nat.mod_lt _ hpp
  generalize hNF : mgN K n (S 0 2) (tn r0 % 2 ^ S 0 2) 9 N = NF
  have lp : ∀ (l1 f nb2 sz2 : Nat) (Rv : Nat → Nat) (BI2 : Nat → Nat → Nat) (BD2 : Nat → Nat → Nat → Int32) (P2 : Nat → Prop) (N2 : Nat → Nat → Nat) (G2 : Pic), l1 ≤ 8 → l1 ≤ f → (CS y sz2 A (va_up S 0 (s3 (S 0 2) nb2 (S 0 4))) (va_up R 0 Rv) DB T BI2 BD2 P2 M G2 ∧ LV B Z0 (S 0 2) n nb2 (K 0) (K 1) (N2 0) (N2 1) Rv BI2 BD2 P2 ∧ N2 0 (tn r0 % 2 ^ S 0 2) = l1 ∧ mgN K n (S 0 2) (tn r0 % 2 ^ S 0 2) f N2 = NF ∧ OF BI BD P BI2 BD2 P2 ∧ (∀ b, BI2 4 b < 2 ^ 31) ∧ sz ≤ sz2) → V p l e ⟨3, 24, 280, 60⟩ s m args below meth c w G2 sz2 (3 * (8 - l1)) (35 * (8 - l1)) (mQ w below args s ⟨3, 24, 280, 60⟩ (fun v G' sz' => v = none ∧ ∃ nb' R' BI' BD' P', CS y sz' A (va_up S 0 (s3 (S 0 2) nb' (S 0 4))) (va_up R 0 R') DB T BI' BD' P' M G' ∧ LV B Z0 (S 0 2) n nb' (K 0) (K 1) (NF 0) (NF 1) R' BI' BD' P' ∧ OF BI BD P BI' BD' P' ∧ (∀ b, BI' 4 b < 2 ^ 31) ∧ sz ≤ sz')) 12 [some (.ref (y)), some (.int (r0)), some (.int (nI (l1))), none, none] [] := by
    intro l1
    induction l1 with
    | zero =>
      intro f nb2 sz2 Rv BI2 BD2 P2 N2 G2 h1 h2 hI
      obtain ⟨hI, hL, hl, hm, hof, hb4, hsz2⟩ := hI
      have hN : NF = N2 := by rw [← hm]; exact mgN_stop (fun q => absurd q.1 (by omega))
      refine V.iload_n k dX2_mergeWhileEmpty_12 rfl ?_
      refine V.z_le (tgt := 93) k dX2_mergeWhileEmpty_13 (by decide) (by omega) (fun hb => ?_) (fun hb => ?_)
      · exact V.vret k hM dX2_mergeWhileEmpty_93 (by dsimp only; omega) (by dsimp only; omega) (⟨rfl, nb2, Rv, BI2, BD2, P2, hI, by rw [hN]; exact hL, hof, hb4, hsz2⟩)
      · exact absurd hb (by omega)
    | succ l1 ih =>
      intro f nb2 sz2 Rv BI2 BD2 P2 N2 G2 h1 h2 hI
      obtain ⟨hI, hL, hl, hm, hof, hb4, hsz2⟩ := hI
      obtain ⟨f1, rfl⟩ : ∃ f1, f = f1 + 1 := ⟨f - 1, by omega⟩
      have hv2 := hL.1
      obtain ⟨a1, a2, a3, a4, a5, a6⟩ := hv2.1 _ he0
      have he1 : ((tn r0 % 2 ^ S 0 2) ^^^ 2 ^ l1) % 2 ^ S 0 2 < 2 ^ S 0 2 := Nat.mod_lt _ hpp
      obtain ⟨b1, b2, b3, b4, b5, b6⟩ := hv2.1 _ he1
      have hcnt := cnt_ent hv2 he0
      have hnb := hL.2.1
      have hnb1 := cntF_pos (N2 0) hpp
      have hpl := p2pos l1
      have hpl2 : 2 ^ l1 ≤ 256 := p2le (by omega)
      have hE1 : tn (r0 ^^^ nI (2 ^ l1)) % 2 ^ S 0 2 = ((tn r0 % 2 ^ S 0 2) ^^^ 2 ^ l1) % 2 ^ S 0 2 := by
        rw [tn_xor, tn_nI (by omega), Nat.xor_mod_two_pow, Nat.xor_mod_two_pow (a := tn r0 % 2 ^ S 0 2), Nat.mod_mod]
      refine V.iload_n k dX2_mergeWhileEmpty_12 rfl ?_
      refine V.z_le (tgt := 93) k dX2_mergeWhileEmpty_13 (by decide) (by omega) (fun hb => ?_) (fun hb => ?_)
      · exact absurd hb (by omega)
      · refine V.aload_n k dX2_mergeWhileEmpty_16 rfl ?_
        refine V.getf (v := .ref (y + 4)) k dX2_mergeWhileEmpty_17 fl_X2_mergeWhileEmpty_38 (hI.1.1) rfl ?_
        refine V.iload_n k dX2_mergeWhileEmpty_20 rfl ?_
        refine V.cV (As := [.int (r0)]) (ci := 1) (st1 := [.ref (Rv (tn r0 % 2 ^ S 0 2))]) k dX2_mergeWhileEmpty_21 (c_X1_bucketOf l w (y + 4) sz2 G2 (S 0 2) nb2 (S 0 4) (2 ^ A 1) (drB (A 1)) Rv (DB 0) hI.1.2.1 (by omega) (by omega) (by omega) r0) gX2_mergeWhileEmpty_X1_bucketOf rfl rfl (hI.1.2.1.1) ⟨rfl, hd_X1_bucketOf⟩ ⟨⟨Nat.le_of_ble_eq_true rfl, Nat.le_of_ble_eq_true rfl⟩, (by dsimp only; omega), (by dsimp only; omega)⟩ rfl rfl rfl (Nat.le_of_ble_eq_true rfl) rfl ?_
        refine V.astore_n (L' := [some (.ref (y)), some (.int (r0)), some (.int (nI (l1 + 1))), some (.ref (Rv (tn r0 % 2 ^ S 0 2))), none]) k dX2_mergeWhileEmpty_24 (Nat.le_of_ble_eq_true rfl) rfl ?_
        refine V.aload_n k dX2_mergeWhileEmpty_25 rfl ?_
        refine V.getf (v := .ref (y + 4)) k dX2_mergeWhileEmpty_26 fl_X2_mergeWhileEmpty_38 (hI.1.1) rfl ?_
        refine V.iload_n k dX2_mergeWhileEmpty_29 rfl ?_
        refine V.iconst (v := nI 1) k dX2_mergeWhileEmpty_30 (by decide) ?_
        refine V.iload_n k dX2_mergeWhileEmpty_31 rfl ?_
        refine V.iconst (v := nI 1) k dX2_mergeWhileEmpty_32 (by decide) ?_
        refine V.isub (v := (nI (l1))) k dX2_mergeWhileEmpty_33 (pk_sub (by omega)) ?_
        refine V.ishl (v := (nI (2 ^ (l1)))) k dX2_mergeWhileEmpty_34 (shl1 (by omega)) ?_
        refine V.ixor (v := (r0 ^^^ nI (2 ^ l1))) k dX2_mergeWhileEmpty_35 (rfl) ?_
        refine V.cV (As := [.int (r0 ^^^ nI (2 ^ l1))]) (ci := 1) (st1 := [.ref (Rv (tn (r0 ^^^ nI (2 ^ l1)) % 2 ^ S 0 2))]) k dX2_mergeWhileEmpty_36 (c_X1_bucketOf l w (y + 4) sz2 G2 (S 0 2) nb2 (S 0 4) (2 ^ A 1) (drB (A 1)) Rv (DB 0) hI.1.2.1 (by omega) (by omega) (by omega) (r0 ^^^ nI (2 ^ l1))) gX2_mergeWhileEmpty_X1_bucketOf rfl rfl (hI.1.2.1.1) ⟨rfl, hd_X1_bucketOf⟩ ⟨⟨Nat.le_of_ble_eq_true rfl, Nat.le_of_ble_eq_true rfl⟩, (by dsimp only; omega), (by dsimp only; omega)⟩ rfl rfl rfl (Nat.le_of_ble_eq_true rfl) rfl ?_
        refine V.stk (st' := [.ref (Rv (((tn r0 % 2 ^ S 0 2) ^^^ 2 ^ l1) % 2 ^ S 0 2))]) (by rw [hE1]) ?_
        refine V.astore (L' := [some (.ref (y)), some (.int (r0)), some (.int (nI (l1 + 1))), some (.ref (Rv (tn r0 % 2 ^ S 0 2))), some (.ref (Rv (((tn r0 % 2 ^ S 0 2) ^^^ 2 ^ l1) % 2 ^ S 0 2)))]) k dX2_mergeWhileEmpty_39 (Nat.le_of_ble_eq_true rfl) rfl ?_
        refine V.aload_n k dX2_mergeWhileEmpty_41 rfl ?_
        refine V.getf (v := .int (nI (BI2 3 (Rv (tn r0 % 2 ^ S 0 2))))) k dX2_mergeWhileEmpty_42 fl_X2_mergeWhileEmpty_71 ((hI.bk a1).1) rfl ?_
        refine V.z_gt (tgt := 57) k dX2_mergeWhileEmpty_45 (by decide) (by omega) (fun hc => ?_) (fun hc => ?_)
        · have hN : NF = N2 := by rw [← hm]; exact mgN_stop (fun q => absurd q.2.1 (by rw [hcnt]; omega))
          exact V.vret k hM dX2_mergeWhileEmpty_57 (by dsimp only; omega) (by dsimp only; omega) (⟨rfl, nb2, Rv, BI2, BD2, P2, hI, by rw [hN]; exact hL, hof, hb4, hsz2⟩)
        · refine V.aload k dX2_mergeWhileEmpty_48 rfl ?_
          refine V.getf (v := .int (nI (BI2 0 (Rv (((tn r0 % 2 ^ S 0 2) ^^^ 2 ^ l1) % 2 ^ S 0 2))))) k dX2_mergeWhileEmpty_50 fl_X2_mergeWhileEmpty_81 ((hI.bk b1).1) rfl ?_
          refine V.iload_n k dX2_mergeWhileEmpty_53 rfl ?_
          refine V.n_eq (tgt := 58) k dX2_mergeWhileEmpty_54 (by decide) (by omega) (by omega) (fun hq => ?_) (fun hq => ?_)
          · refine V.aload_n k dX2_mergeWhileEmpty_58 rfl ?_
            refine V.getf (v := .ref (y + 4)) k dX2_mergeWhileEmpty_59 fl_X2_mergeWhileEmpty_38 (hI.1.1) rfl ?_
            refine V.aload k dX2_mergeWhileEmpty_62 rfl ?_
            refine V.iload_n k dX2_mergeWhileEmpty_64 rfl ?_
            refine V.iconst (v := nI 1) k dX2_mergeWhileEmpty_65 (by decide) ?_
            refine V.isub (v := (nI (l1))) k dX2_mergeWhileEmpty_66 (pk_sub (by omega)) ?_
            have hat := hI.at b1
            refine V.callV (As := [.int (nI (l1))]) (ci := 0) k dX2_mergeWhileEmpty_67 (c_X0_changedCopy l w (Rv (((tn r0 % 2 ^ S 0 2) ^^^ 2 ^ l1) % 2 ^ S 0 2)) sz2 G2 _ _ _ _ _ (hI.bk b1) b5 l1 (by omega)) gX2_mergeWhileEmpty_X0_changedCopy rfl rfl ((hI.bk b1).1) ⟨rfl, hd_X0_changedCopy⟩ ⟨⟨Nat.le_of_ble_eq_true rfl, Nat.le_of_ble_eq_true rfl⟩, (by dsimp only; omega), (by dsimp only; omega)⟩ rfl rfl rfl (Nat.le_of_ble_eq_true rfl) (fun v1 G3 sz3 hp1 => ?_)
            obtain ⟨rfl, rfl, hB1, hf1⟩ := hp1
            have hC1 := hI.fresh hB1 hf1
            refine V.stk (st' := [.ref (sz2), .ref (y + 4)]) rfl ?_
            refine V.iload_n k dX2_mergeWhileEmpty_70 rfl ?_
            refine V.callV (As := [.ref (sz2), .int (r0)]) (ci := 1) k dX2_mergeWhileEmpty_71 (c_X1_enter l w (y + 4) (sz2 + 3) G3 (S 0 2) nb2 (S 0 4) (2 ^ A 1) (drB (A 1)) Rv (DB 0) hC1.1.2.1 (by omega) (by omega) (by omega) sz2 _ _ _ _ _ r0 hB1 (by omega) (by omega)) gX2_mergeWhileEmpty_X1_enter rfl rfl (hC1.1.2.1.1) ⟨rfl, hd_X1_enter⟩ ⟨⟨Nat.le_of_ble_eq_true rfl, Nat.le_of_ble_eq_true rfl⟩, (by dsimp only; omega), (by dsimp only; omega)⟩ rfl rfl rfl (Nat.le_of_ble_eq_true rfl) (fun v2 G4 sz4 hp2 => ?_)
            obtain ⟨rfl, rfl, hS4, hs4⟩ := hp2
            have hC2 := hC1.liveG (S' := (va_up S 0 (s3 (S 0 2) nb2 (S 0 4)))) (R' := (va_up R 0 (entR Rv (2 ^ S 0 2) sz2 l1 (tn r0)))) (DB' := DB) hS4 (fun _ _ => rfl) (fun j hj => by rw [va_up_ne _ _ hj, va_up_ne _ _ hj]) (fun _ _ => rfl) hs4
            refine V.stk (st' := []) rfl ?_
            refine V.aload_n k dX2_mergeWhileEmpty_74 rfl ?_
            refine V.getf (v := .ref (y + 4)) k dX2_mergeWhileEmpty_75 fl_X2_mergeWhileEmpty_38 (hC2.1.1) rfl ?_
            refine V.dup k dX2_mergeWhileEmpty_78 rfl ?_
            refine V.getf (v := .int (nI (nb2))) k dX2_mergeWhileEmpty_79 fl_X2_mergeWhileEmpty_118 (hC2.1.2.1.1) rfl ?_
            refine V.iconst (v := nI 1) k dX2_mergeWhileEmpty_82 (by decide) ?_
            refine V.isub (v := (nI (nb2 - 1))) k dX2_mergeWhileEmpty_83 (pk_sub (by omega)) ?_
            refine V.putf (fs' := [.ref (y + 5), .ref (y + 6), .int (nI (S 0 2)), .int (nI (nb2 - 1)), .int (nI (S 0 4))]) k dX2_mergeWhileEmpty_84 fl_X2_mergeWhileEmpty_118 ft_X1_3 (hC2.1.2.1.1) (by first | rfl | decide) rfl (Nat.le_of_ble_eq_true rfl) rfl ?_
            have hC3 := hC2.liveG (S' := va_up S 0 (s3 (S 0 2) (nb2 - 1) (S 0 4))) (R' := (va_up R 0 (entR Rv (2 ^ S 0 2) sz2 l1 (tn r0)))) (DB' := DB) (G' := (gup G4 (y + 4) (gO 1 [.ref (y + 5), .ref (y + 6), .int (nI (S 0 2)), .int (nI (nb2 - 1)), .int (nI (S 0 4))]))) ⟨gup_self _ _ _, (gup_ne _ _ (by omega)).trans hC2.1.2.1.2.1, (gup_ne _ _ (by omega)).trans hC2.1.2.1.2.2⟩ (fun j hj => by rw [va_up_ne _ _ hj, va_up_ne _ _ hj]) (fun _ _ => rfl) (fun _ _ => rfl) (Sm.up _ (by omega))
            refine V.iinc (x := nI (l1 + 1)) (v := nI l1) (L' := [some (.ref y), some (.int r0), some (.int (nI l1)), some (.ref (Rv (tn r0 % 2 ^ S 0 2))), some (.ref (Rv (((tn r0 % 2 ^ S 0 2) ^^^ 2 ^ l1) % 2 ^ S 0 2)))]) k dX2_mergeWhileEmpty_87 rfl (nI_dec1 (by omega)) rfl ?_
            refine V.goto (tgt := 12) k dX2_mergeWhileEmpty_90 (by decide) ?_
            refine V.dropL 3 (L' := [some (.ref (y)), some (.int (r0)), some (.int (nI (l1))), none, some (.ref (Rv (((tn r0 % 2 ^ S 0 2) ^^^ 2 ^ l1) % 2 ^ S 0 2)))]) rfl ?_
            refine V.dropL 4 (L' := [some (.ref (y)), some (.int (r0)), some (.int (nI (l1))), none, none]) rfl ?_
            have hl1 : N2 0 (((tn r0 % 2 ^ S 0 2) ^^^ 2 ^ l1) % 2 ^ S 0 2) = l1 + 1 := by omega
            have hL3 := hL.merge (sz := sz2) (r := tn r0) rfl hl hl1 (by omega) (fun q hq => by have := hI.at hq; omega)
            have hm3 : mgN K n (S 0 2) (tn r0 % 2 ^ S 0 2) f1 (setN N2 (2 ^ S 0 2) (tn r0 % 2 ^ S 0 2) l1 l1) = NF := by
              rw [← hm, mgN, if_pos ⟨by omega, by rw [hcnt]; exact hc, by rw [hl, Nat.add_sub_cancel]; exact hl1⟩, hl, Nat.add_sub_cancel]
            refine V.widen (k := 3 * (8 - l1)) (n := 35 * (8 - l1)) (by dsimp only; omega) (by dsimp only; omega) ?_
            refine ih f1 (nb2 - 1) (sz2 + 3) _ _ _ _ (setN N2 (2 ^ S 0 2) (tn r0 % 2 ^ S 0 2) l1 l1) _ (by omega) (by omega) ⟨hC3, hL3, ?_, hm3, hof.tr (OF.of fun q hq => ⟨Or.inl hq, fun j => ?_⟩), setI4 hb4 (by omega), by omega⟩
            · rw [setN_0a, if_pos ⟨he0, rfl⟩]
            · have := hI.at hq
              rw [setI_ne (by omega), setD_ne (by omega)]
              exact ⟨rfl, rfl⟩
          · have hN : NF = N2 := by rw [← hm]; exact mgN_stop (fun q => hq (by have := q.2.2; rw [hl, Nat.add_sub_cancel] at this; omega))
            exact V.vret k hM dX2_mergeWhileEmpty_57 (by dsimp only; omega) (by dsimp only; omega) (⟨rfl, nb2, Rv, BI2, BD2, P2, hI, by rw [hN]; exact hL, hof, hb4, hsz2⟩)
  obtain ⟨a1, a2, a3, a4, a5, a6⟩ := hV.1.1 _ he0
  refine V.aload_n k dX2_mergeWhileEmpty_0 rfl ?_
  refine V.getf (v := .ref (y + 4)) k dX2_mergeWhileEmpty_1 fl_X2_mergeWhileEmpty_38 (hC.1.1) rfl ?_
  refine V.iload_n k dX2_mergeWhileEmpty_4 rfl ?_
  refine V.cV (As := [.int (r0)]) (ci := 1) (st1 := [.ref (R 0 (tn r0 % 2 ^ S 0 2))]) k dX2_mergeWhileEmpty_5 (c_X1_bucketOf l w (y + 4) sz G _ _ _ _ _ _ _ hC.1.2.1 (by omega) (by omega) (by omega) r0) gX2_mergeWhileEmpty_X1_bucketOf rfl rfl (hC.1.2.1.1) ⟨rfl, hd_X1_bucketOf⟩ ⟨⟨Nat.le_of_ble_eq_true rfl, Nat.le_of_ble_eq_true rfl⟩, Nat.le_of_ble_eq_true rfl, Nat.le_of_ble_eq_true rfl⟩ rfl rfl rfl (Nat.le_of_ble_eq_true rfl) rfl ?_
  refine V.getf (v := .int (nI (BI 0 (R 0 (tn r0 % 2 ^ S 0 2))))) k dX2_mergeWhileEmpty_8 fl_X2_mergeWhileEmpty_81 ((hC.bk a1).1) rfl ?_
  refine V.istore_n (L' := [some (.ref (y)), some (.int (r0)), some (.int (nI (BI 0 (R 0 (tn r0 % 2 ^ S 0 2))))), none, none]) k dX2_mergeWhileEmpty_11 (Nat.le_of_ble_eq_true rfl) rfl ?_
  refine V.widen (k := 3 * (8 - BI 0 (R 0 (tn r0 % 2 ^ S 0 2)))) (n := 35 * (8 - BI 0 (R 0 (tn r0 % 2 ^ S 0 2)))) (by dsimp only; omega) (by dsimp only; omega) ?_
  exact lp (BI 0 (R 0 (tn r0 % 2 ^ S 0 2))) 9 (S 0 3) sz (R 0) BI BD P N G (by omega) (by omega) ⟨hC.liveG hC.1.2.1 (fun j hj => va_up_ne _ _ hj) (fun j hj => va_up_ne _ _ hj) (fun _ _ => rfl) (Sm.rf _ _), hV, a3.symm, hNF, OF.rf, hB4, Nat.le_refl _⟩
