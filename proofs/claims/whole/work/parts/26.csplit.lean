theorem setI_self {BI : Nat → Nat → Nat} {b l c k : Nat} : setI BI b l c k 0 b = l ∧ setI BI b l c k 3 b = c ∧ setI BI b l c k 4 b = k := by
  unfold setI
  simp
theorem setI_ne {BI : Nat → Nat → Nat} {b q l c k j : Nat} (h : q ≠ b) : setI BI b l c k j q = BI j q := by
  unfold setI
  rw [if_neg h]
theorem setD_self {BD : Nat → Nat → Nat → Int32} {b : Nat} {K U : Nat → Int32} : setD BD b K U 0 b = K ∧ setD BD b K U 1 b = U := by
  unfold setD
  simp
theorem setD_ne {BD : Nat → Nat → Nat → Int32} {b q j : Nat} {K U : Nat → Int32} (h : q ≠ b) : setD BD b K U j q = BD j q := by
  unfold setD
  rw [if_neg h]
/-- a key stored in a bucket's rows -/
def sto (q : (Nat → Int32) × (Nat → Int32) × Nat) (k v : Int32) : (Nat → Int32) × (Nat → Int32) × Nat :=
  if fnd q.1 k q.2.2 0 < q.2.2 then (q.1, upd q.2.1 (fnd q.1 k q.2.2 0) v, q.2.2) else (upd q.1 q.2.2 k, upd q.2.1 q.2.2 v, q.2.2 + 1)
/-- the keys of a bucket of which a bit is so -/
def spL (K U : Nat → Int32) (m : Int32) (w : Bool) : Nat → (Nat → Int32) × (Nat → Int32) × Nat
  | 0 => (fun _ => 0, fun _ => 0, 0)
  | i + 1 => if decide (mx (K i) &&& m = 0) = w then sto (spL K U m w i) (K i) (U i) else spL K U m w i
theorem sto_le (q : (Nat → Int32) × (Nat → Int32) × Nat) (k v : Int32) : (sto q k v).2.2 ≤ q.2.2 + 1 := by
  unfold sto
  split <;> simp
theorem spL_le (K U : Nat → Int32) (m : Int32) (w : Bool) : ∀ i, (spL K U m w i).2.2 ≤ i
  | 0 => Nat.le_refl _
  | i + 1 => by
    have ih := spL_le K U m w i
    unfold spL
    split
    · exact Nat.le_trans (sto_le _ _ _) (by omega)
    · omega
theorem spL_y {K U : Nat → Int32} {m : Int32} {w : Bool} {i : Nat} (h : decide (mx (K i) &&& m = 0) = w) : spL K U m w (i + 1) = sto (spL K U m w i) (K i) (U i) := by
  rw [spL, if_pos h]
theorem spL_n {K U : Nat → Int32} {m : Int32} {w : Bool} {i : Nat} (h : ¬ decide (mx (K i) &&& m = 0) = w) : spL K U m w (i + 1) = spL K U m w i := by
  rw [spL, if_neg h]
theorem Ct.wk {l : Launch} {w : Wd} {y : MethodName} {ws : List Cond} {rm : Room} {av : List Value} {G : Pic} {sz : Nat} {p1 p2 : Option Value → Pic → Nat → Prop} (h : Ct l w y ws rm av G sz p1) (hp : ∀ v G' sz', p1 v G' sz' → p2 v G' sz') : Ct l w y ws rm av G sz p2 := by
  unfold Ct Met at h ⊢
  exact MetFree.mono h (fun _ _ q => q) (fun _ _ _ _ _ q => q) fun a s o t _ hq => ⟨⟨by obtain ⟨⟨⟨v, G', sz', h1, h2, h3⟩, -⟩, -⟩ := hq; exact ⟨v, G', sz', h1, hp _ _ _ h2, h3⟩, hq.1.2⟩, hq.2⟩
theorem c_X0_store_any (l : Launch) (w : Wd) (b sz : Nat) (G : Pic) (loc cnt blk : Nat) (K U : Nat → Int32) (hB : BkAt G b loc cnt blk K U) (hc : cnt ≤ 15) (k0 v0 : Int32) (hc2 : cnt < 15) : Ct l w yX0_store wsX0_store ⟨1, 0, 0, 22⟩ [.ref (b), .int (k0), .int (v0)] G sz (fun v G' sz' => (∃ x : Int32, v = some (.int x)) ∧ sz' = sz ∧ BkAt G' b loc (sto (K, U, cnt) k0 v0).2.2 blk (sto (K, U, cnt) k0 v0).1 (sto (K, U, cnt) k0 v0).2.1 ∧ Sm G G' b) := by
  by_cases hp : fnd K k0 cnt 0 < cnt
  · have e : sto (K, U, cnt) k0 v0 = (K, upd U (fnd K k0 cnt 0) v0, cnt) := by unfold sto; rw [if_pos hp]
    rw [e]
    exact Ct.wk (c_X0_store_old l w b sz G loc cnt blk K U hB hc k0 v0 hp) fun v G' sz' h => ⟨⟨_, h.1⟩, h.2⟩
  · have e : sto (K, U, cnt) k0 v0 = (upd K cnt k0, upd U cnt v0, cnt + 1) := by unfold sto; rw [if_neg hp]
    rw [e]
    exact Ct.wk (c_X0_store_new l w b sz G loc cnt blk K U hB hc k0 v0 hp hc2) fun v G' sz' h => ⟨⟨_, h.1⟩, h.2⟩
theorem fl_X2_changeableBucketOf_38 : FL wsX2_changeableBucketOf RX2 38 2 2 := ⟨RX2, TX2, 9, rfl, (fun _ h => List.mem_cons_of_mem _ (List.mem_append_left _ (List.mem_append_left _ (List.mem_append_right _ h)))), by decide, List.mem_of_getElem? (i := 1) rfl, rfl⟩
theorem fl_X2_changeableBucketOf_30 : FL wsX2_changeableBucketOf RX2 30 0 4 := ⟨RX0, TX0, 5, rfl, (fun _ h => List.mem_cons_of_mem _ (List.mem_append_left _ (List.mem_append_right _ h))), by decide, List.mem_of_getElem? (i := 2) rfl, rfl⟩
theorem fl_X2_changeableBucketOf_81 : FL wsX2_changeableBucketOf RX2 81 0 0 := ⟨RX0, TX0, 5, rfl, (fun _ h => List.mem_cons_of_mem _ (List.mem_append_left _ (List.mem_append_right _ h))), by decide, List.mem_of_getElem? (i := 3) rfl, rfl⟩
set_option maxHeartbeats 4000000 in
set_option maxRecDepth 100000 in
theorem c_X2_changeableBucketOf_same (l : Launch) (w : Wd) (y sz : Nat) (A : Nat → Nat) (S R DB : Nat → Nat → Nat) (T : Nat → Bool) (BI : Nat → Nat → Nat) (BD : Nat → Nat → Nat → Int32) (P : Nat → Prop) (M G : Pic) (hC : CS y sz A S R DB T BI BD P M G) (r0 : Int32) (hS2 : S 0 2 ≤ A 1) (hb : P (R 0 (tn r0 % 2 ^ S 0 2))) (hc15 : BI 3 (R 0 (tn r0 % 2 ^ S 0 2)) ≤ 15) (hl : BI 0 (R 0 (tn r0 % 2 ^ S 0 2)) ≤ 8) (hB4 : BI 4 (R 0 (tn r0 % 2 ^ S 0 2)) < 2 ^ 31) (hz : BI 4 (R 0 (tn r0 % 2 ^ S 0 2)) = 0) : Ct l w yX2_changeableBucketOf wsX2_changeableBucketOf ⟨3, 3, 35, 60⟩ [.ref (y), .int (r0)] G sz (rt (some (.ref (R 0 (tn r0 % 2 ^ S 0 2)))) G sz) := by
  refine Ct.of (cc := cX2_changeableBucketOf) (maxL := 4) (ret := (some (.object "ExtendStore$Bucket"))) (L := [some (.ref (y)), some (.int (r0)), none, none]) (by decide +kernel) rfl (by simp [Value.category]) (by simp) rfl ?_
  intro p e s m args below meth c k hM
  have hab := hC.ab
  obtain ⟨hA0, hA0b, hA1, hA5, hA7, hA8⟩ := hab
  have hsz := hC.2.2.1.2
  have hpw : 2 ^ S 0 2 ≤ 2 ^ A 1 := Nat.pow_le_pow_right (by omega) hS2
  have hpA := p2le hA1
  have hpp := p2pos (S 0 2)
  refine V.aload_n k dX2_changeableBucketOf_0 rfl ?_
  refine V.getf (v := .ref (y + 4)) k dX2_changeableBucketOf_1 fl_X2_changeableBucketOf_38 (hC.1.1) rfl ?_
  refine V.iload_n k dX2_changeableBucketOf_4 rfl ?_
  refine V.cV (As := [.int (r0)]) (ci := 1) (st1 := [.ref (R 0 (tn r0 % 2 ^ S 0 2))]) k dX2_changeableBucketOf_5 (c_X1_bucketOf l w (y + 4) sz G _ _ _ _ _ _ _ hC.1.2.1 (by omega) (by omega) (by omega) r0) gX2_changeableBucketOf_X1_bucketOf rfl rfl (hC.1.2.1.1) ⟨rfl, hd_X1_bucketOf⟩ ⟨⟨Nat.le_of_ble_eq_true rfl, Nat.le_of_ble_eq_true rfl⟩, Nat.le_of_ble_eq_true rfl, Nat.le_of_ble_eq_true rfl⟩ rfl rfl rfl (Nat.le_of_ble_eq_true rfl) rfl ?_
  refine V.astore_n (L' := [some (.ref (y)), some (.int (r0)), some (.ref (R 0 (tn r0 % 2 ^ S 0 2))), none]) k dX2_changeableBucketOf_8 (Nat.le_of_ble_eq_true rfl) rfl ?_
  refine V.aload_n k dX2_changeableBucketOf_9 rfl ?_
  refine V.getf (v := .int (nI (BI 4 (R 0 (tn r0 % 2 ^ S 0 2))))) k dX2_changeableBucketOf_10 fl_X2_changeableBucketOf_30 ((hC.bk hb).1) rfl ?_
  refine V.z_ne (tgt := 18) k dX2_changeableBucketOf_13 (by decide) (by omega) (fun hq => ?_) (fun hq => ?_)
  · exact absurd hq (by omega)
  · refine V.aload_n k dX2_changeableBucketOf_16 rfl ?_
    exact V.aret k hM dX2_changeableBucketOf_17 (Nat.le_of_ble_eq_true rfl) (Nat.le_of_ble_eq_true rfl) (rt_ok)
set_option maxHeartbeats 4000000 in
set_option maxRecDepth 100000 in
theorem c_X2_changeableBucketOf_copy (l : Launch) (w : Wd) (y sz : Nat) (A : Nat → Nat) (S R DB : Nat → Nat → Nat) (T : Nat → Bool) (BI : Nat → Nat → Nat) (BD : Nat → Nat → Nat → Int32) (P : Nat → Prop) (M G : Pic) (hC : CS y sz A S R DB T BI BD P M G) (r0 : Int32) (hS2 : S 0 2 ≤ A 1) (hb : P (R 0 (tn r0 % 2 ^ S 0 2))) (hc15 : BI 3 (R 0 (tn r0 % 2 ^ S 0 2)) ≤ 15) (hl : BI 0 (R 0 (tn r0 % 2 ^ S 0 2)) ≤ 8) (hB4 : BI 4 (R 0 (tn r0 % 2 ^ S 0 2)) < 2 ^ 31) (hz : 0 < BI 4 (R 0 (tn r0 % 2 ^ S 0 2))) : Ct l w yX2_changeableBucketOf wsX2_changeableBucketOf ⟨3, 3, 35, 60⟩ [.ref (y), .int (r0)] G sz (fun v G' sz' => v = some (.ref sz) ∧ sz' = sz + 3 ∧ CS y (sz + 3) A S (va_up R 0 (entR (R 0) (2 ^ S 0 2) sz (BI 0 (R 0 (tn r0 % 2 ^ S 0 2))) (tn r0))) DB T (setI BI sz (BI 0 (R 0 (tn r0 % 2 ^ S 0 2))) (BI 3 (R 0 (tn r0 % 2 ^ S 0 2))) 0) (setD BD sz (cpT (BD 0 (R 0 (tn r0 % 2 ^ S 0 2))) (fun _ => 0) (BI 3 (R 0 (tn r0 % 2 ^ S 0 2)))) (cpT (BD 1 (R 0 (tn r0 % 2 ^ S 0 2))) (fun _ => 0) (BI 3 (R 0 (tn r0 % 2 ^ S 0 2))))) (fun q => P q ∨ q = sz) M G') := by
  refine Ct.of (cc := cX2_changeableBucketOf) (maxL := 4) (ret := (some (.object "ExtendStore$Bucket"))) (L := [some (.ref (y)), some (.int (r0)), none, none]) (by decide +kernel) rfl (by simp [Value.category]) (by simp) rfl ?_
  intro p e s m args below meth c k hM
  have hab := hC.ab
  obtain ⟨hA0, hA0b, hA1, hA5, hA7, hA8⟩ := hab
  have hsz := hC.2.2.1.2
  have hpw : 2 ^ S 0 2 ≤ 2 ^ A 1 := Nat.pow_le_pow_right (by omega) hS2
  have hpA := p2le hA1
  have hpp := p2pos (S 0 2)
  refine V.aload_n k dX2_changeableBucketOf_0 rfl ?_
  refine V.getf (v := .ref (y + 4)) k dX2_changeableBucketOf_1 fl_X2_changeableBucketOf_38 (hC.1.1) rfl ?_
  refine V.iload_n k dX2_changeableBucketOf_4 rfl ?_
  refine V.cV (As := [.int (r0)]) (ci := 1) (st1 := [.ref (R 0 (tn r0 % 2 ^ S 0 2))]) k dX2_changeableBucketOf_5 (c_X1_bucketOf l w (y + 4) sz G _ _ _ _ _ _ _ hC.1.2.1 (by omega) (by omega) (by omega) r0) gX2_changeableBucketOf_X1_bucketOf rfl rfl (hC.1.2.1.1) ⟨rfl, hd_X1_bucketOf⟩ ⟨⟨Nat.le_of_ble_eq_true rfl, Nat.le_of_ble_eq_true rfl⟩, Nat.le_of_ble_eq_true rfl, Nat.le_of_ble_eq_true rfl⟩ rfl rfl rfl (Nat.le_of_ble_eq_true rfl) rfl ?_
  refine V.astore_n (L' := [some (.ref (y)), some (.int (r0)), some (.ref (R 0 (tn r0 % 2 ^ S 0 2))), none]) k dX2_changeableBucketOf_8 (Nat.le_of_ble_eq_true rfl) rfl ?_
  refine V.aload_n k dX2_changeableBucketOf_9 rfl ?_
  refine V.getf (v := .int (nI (BI 4 (R 0 (tn r0 % 2 ^ S 0 2))))) k dX2_changeableBucketOf_10 fl_X2_changeableBucketOf_30 ((hC.bk hb).1) rfl ?_
  refine V.z_ne (tgt := 18) k dX2_changeableBucketOf_13 (by decide) (by omega) (fun hq => ?_) (fun hq => ?_)
  · have hat := hC.at hb
    refine V.aload_n k dX2_changeableBucketOf_18 rfl ?_
    refine V.aload_n k dX2_changeableBucketOf_19 rfl ?_
    refine V.getf (v := .int (nI (BI 0 (R 0 (tn r0 % 2 ^ S 0 2))))) k dX2_changeableBucketOf_20 fl_X2_changeableBucketOf_81 ((hC.bk hb).1) rfl ?_
    refine V.callV (As := [.int (nI (BI 0 (R 0 (tn r0 % 2 ^ S 0 2))))]) (ci := 0) k dX2_changeableBucketOf_23 (c_X0_changedCopy l w (R 0 (tn r0 % 2 ^ S 0 2)) sz G _ _ _ _ _ (hC.bk hb) hc15 (BI 0 (R 0 (tn r0 % 2 ^ S 0 2))) (by omega)) gX2_changeableBucketOf_X0_changedCopy rfl rfl ((hC.bk hb).1) ⟨rfl, hd_X0_changedCopy⟩ ⟨⟨Nat.le_of_ble_eq_true rfl, Nat.le_of_ble_eq_true rfl⟩, Nat.le_of_ble_eq_true rfl, Nat.le_of_ble_eq_true rfl⟩ rfl rfl rfl (Nat.le_of_ble_eq_true rfl) (fun v1 G1 sz1 hp1 => ?_)
    obtain ⟨rfl, rfl, hB1, hf1⟩ := hp1
    have hC1 := hC.fresh hB1 hf1
    refine V.stk (st' := [.ref (sz)]) rfl ?_
    refine V.astore_n (L' := [some (.ref (y)), some (.int (r0)), some (.ref (R 0 (tn r0 % 2 ^ S 0 2))), some (.ref (sz))]) k dX2_changeableBucketOf_26 (Nat.le_of_ble_eq_true rfl) rfl ?_
    refine V.aload_n k dX2_changeableBucketOf_27 rfl ?_
    refine V.getf (v := .ref (y + 4)) k dX2_changeableBucketOf_28 fl_X2_changeableBucketOf_38 (hC1.1.1) rfl ?_
    refine V.aload_n k dX2_changeableBucketOf_31 rfl ?_
    refine V.iload_n k dX2_changeableBucketOf_32 rfl ?_
    refine V.callV (As := [.ref (sz), .int (r0)]) (ci := 1) k dX2_changeableBucketOf_33 (c_X1_enter l w (y + 4) (sz + 3) G1 _ _ _ _ _ _ _ hC1.1.2.1 (by omega) (by omega) (by omega) sz _ _ _ _ _ r0 hB1 (by omega) hl) gX2_changeableBucketOf_X1_enter rfl rfl (hC1.1.2.1.1) ⟨rfl, hd_X1_enter⟩ ⟨⟨Nat.le_of_ble_eq_true rfl, Nat.le_of_ble_eq_true rfl⟩, Nat.le_of_ble_eq_true rfl, Nat.le_of_ble_eq_true rfl⟩ rfl rfl rfl (Nat.le_of_ble_eq_true rfl) (fun v2 G2 sz2 hp2 => ?_)
    obtain ⟨rfl, rfl, hS1, hs1⟩ := hp2
    have hC2 := hC1.liveG (S' := S) (R' := va_up R 0 (entR (R 0) (2 ^ S 0 2) sz (BI 0 (R 0 (tn r0 % 2 ^ S 0 2))) (tn r0))) (DB' := DB) hS1 (fun _ _ => rfl) (fun j hj => va_up_ne _ _ hj) (fun _ _ => rfl) hs1
    refine V.stk (st' := []) rfl ?_
    refine V.aload_n k dX2_changeableBucketOf_36 rfl ?_
    exact V.aret k hM dX2_changeableBucketOf_37 (Nat.le_of_ble_eq_true rfl) (Nat.le_of_ble_eq_true rfl) (⟨rfl, rfl, hC2⟩)
  · exact absurd hq (by omega)
theorem fl_X2_splitBucketOf_38 : FL wsX2_splitBucketOf RX2 38 2 2 := ⟨RX2, TX2, 9, rfl, (fun _ h => List.mem_cons_of_mem _ (List.mem_append_left _ (List.mem_append_left _ (List.mem_append_right _ h)))), by decide, List.mem_of_getElem? (i := 1) rfl, rfl⟩
theorem fl_X2_splitBucketOf_81 : FL wsX2_splitBucketOf RX2 81 0 0 := ⟨RX0, TX0, 5, rfl, (fun _ h => List.mem_cons_of_mem _ (List.mem_append_left _ (List.mem_append_right _ h))), by decide, List.mem_of_getElem? (i := 2) rfl, rfl⟩
theorem fl_X2_splitBucketOf_115 : FL wsX2_splitBucketOf RX2 115 1 2 := ⟨RX1, TX1, 5, rfl, (fun _ h => List.mem_cons_of_mem _ (List.mem_append_right _ h)), by decide, List.mem_of_getElem? (i := 3) rfl, rfl⟩
theorem fl_X2_splitBucketOf_71 : FL wsX2_splitBucketOf RX2 71 0 3 := ⟨RX0, TX0, 5, rfl, (fun _ h => List.mem_cons_of_mem _ (List.mem_append_left _ (List.mem_append_right _ h))), by decide, List.mem_of_getElem? (i := 7) rfl, rfl⟩
theorem fl_X2_splitBucketOf_141 : FL wsX2_splitBucketOf RX2 141 0 1 := ⟨RX0, TX0, 5, rfl, (fun _ h => List.mem_cons_of_mem _ (List.mem_append_left _ (List.mem_append_right _ h))), by decide, List.mem_of_getElem? (i := 8) rfl, rfl⟩
theorem fl_X2_splitBucketOf_101 : FL wsX2_splitBucketOf RX2 101 0 2 := ⟨RX0, TX0, 5, rfl, (fun _ h => List.mem_cons_of_mem _ (List.mem_append_left _ (List.mem_append_right _ h))), by decide, List.mem_of_getElem? (i := 9) rfl, rfl⟩
theorem fl_X2_splitBucketOf_118 : FL wsX2_splitBucketOf RX2 118 1 3 := ⟨RX1, TX1, 5, rfl, (fun _ h => List.mem_cons_of_mem _ (List.mem_append_right _ h)), by decide, List.mem_of_getElem? (i := 10) rfl, rfl⟩
def spD (S R BI : Nat → Nat → Nat) (r0 : Int32) : Nat := if BI 0 (R 0 (tn r0 % 2 ^ S 0 2)) = S 0 2 then S 0 2 + 1 else S 0 2
def spR (S R BI : Nat → Nat → Nat) (r0 : Int32) : Nat → Nat := if BI 0 (R 0 (tn r0 % 2 ^ S 0 2)) = S 0 2 then dblR (R 0) (2 ^ S 0 2) (2 ^ S 0 2) else R 0
def spE (S R BI : Nat → Nat → Nat) (sz : Nat) (r0 : Int32) : Nat → Nat := entR (entR (spR S R BI r0) (2 ^ spD S R BI r0) sz (BI 0 (R 0 (tn r0 % 2 ^ S 0 2)) + 1) (tn (r0 &&& (nI (2 ^ BI 0 (R 0 (tn r0 % 2 ^ S 0 2))) ^^^ (-1))))) (2 ^ spD S R BI r0) (sz + 3) (BI 0 (R 0 (tn r0 % 2 ^ S 0 2)) + 1) (tn (r0 ||| nI (2 ^ BI 0 (R 0 (tn r0 % 2 ^ S 0 2)))))
set_option maxHeartbeats 4000000 in
set_option maxRecDepth 100000 in
theorem c_X2_splitBucketOf (l : Launch) (w : Wd) (y sz : Nat) (A : Nat → Nat) (S R DB : Nat → Nat → Nat) (T : Nat → Bool) (BI : Nat → Nat → Nat) (BD : Nat → Nat → Nat → Int32) (P : Nat → Prop) (M G : Pic) (hC : CS y sz A S R DB T BI BD P M G) (r0 : Int32) (hS2 : S 0 2 ≤ A 1) (hR : ∀ e, e < 2 ^ S 0 2 → P (R 0 e)) (hc15 : BI 3 (R 0 (tn r0 % 2 ^ S 0 2)) ≤ 15) (hl : BI 0 (R 0 (tn r0 % 2 ^ S 0 2)) ≤ S 0 2) (hroom : BI 0 (R 0 (tn r0 % 2 ^ S 0 2)) = S 0 2 → S 0 2 + 1 ≤ A 1) : Ct l w yX2_splitBucketOf wsX2_splitBucketOf ⟨2, 6, 70, 45⟩ [.ref (y), .int (r0)] G sz (fun v G' sz' => v = none ∧ sz' = sz + 6 ∧ CS y (sz + 6) A (va_up S 0 (s3 (spD S R BI r0) (S 0 3 + 1) (S 0 4))) (va_up R 0 (spE S R BI sz r0)) DB T (setI (setI BI sz (BI 0 (R 0 (tn r0 % 2 ^ S 0 2)) + 1) (spL (BD 0 (R 0 (tn r0 % 2 ^ S 0 2))) (BD 1 (R 0 (tn r0 % 2 ^ S 0 2))) (nI (2 ^ BI 0 (R 0 (tn r0 % 2 ^ S 0 2)))) true (BI 3 (R 0 (tn r0 % 2 ^ S 0 2)))).2.2 0) (sz + 3) (BI 0 (R 0 (tn r0 % 2 ^ S 0 2)) + 1) (spL (BD 0 (R 0 (tn r0 % 2 ^ S 0 2))) (BD 1 (R 0 (tn r0 % 2 ^ S 0 2))) (nI (2 ^ BI 0 (R 0 (tn r0 % 2 ^ S 0 2)))) false (BI 3 (R 0 (tn r0 % 2 ^ S 0 2)))).2.2 0) (setD (setD BD sz (spL (BD 0 (R 0 (tn r0 % 2 ^ S 0 2))) (BD 1 (R 0 (tn r0 % 2 ^ S 0 2))) (nI (2 ^ BI 0 (R 0 (tn r0 % 2 ^ S 0 2)))) true (BI 3 (R 0 (tn r0 % 2 ^ S 0 2)))).1 (spL (BD 0 (R 0 (tn r0 % 2 ^ S 0 2))) (BD 1 (R 0 (tn r0 % 2 ^ S 0 2))) (nI (2 ^ BI 0 (R 0 (tn r0 % 2 ^ S 0 2)))) true (BI 3 (R 0 (tn r0 % 2 ^ S 0 2)))).2.1) (sz + 3) (spL (BD 0 (R 0 (tn r0 % 2 ^ S 0 2))) (BD 1 (R 0 (tn r0 % 2 ^ S 0 2))) (nI (2 ^ BI 0 (R 0 (tn r0 % 2 ^ S 0 2)))) false (BI 3 (R 0 (tn r0 % 2 ^ S 0 2)))).1 (spL (BD 0 (R 0 (tn r0 % 2 ^ S 0 2))) (BD 1 (R 0 (tn r0 % 2 ^ S 0 2))) (nI (2 ^ BI 0 (R 0 (tn r0 % 2 ^ S 0 2)))) false (BI 3 (R 0 (tn r0 % 2 ^ S 0 2)))).2.1) (fun q => (P q ∨ q = sz) ∨ q = sz + 3) M G') := by
  refine Ct.of (cc := cX2_splitBucketOf) (maxL := 8) (ret := none) (L := [some (.ref (y)), some (.int (r0)), none, none, none, none, none, none]) (by decide +kernel) rfl (by simp [Value.category]) (by simp) rfl ?_
  intro p e s m args below meth c k hM
  have hab := hC.ab
  obtain ⟨hA0, hA0b, hA1, hA5, hA7, hA8⟩ := hab
  have hsz := hC.2.2.1.2
  have hpw : 2 ^ S 0 2 ≤ 2 ^ A 1 := Nat.pow_le_pow_right (by omega) hS2
  have hpA := p2le hA1
  have hpp := p2pos (S 0 2)
  have hb : P (R 0 (tn r0 % 2 ^ S 0 2)) := hR _ (Nat.mod_lt _ hpp)
  have hat := hC.at hb
  unfold spE
  have hdA : spD S R BI r0 ≤ A 1 := by unfold spD; split <;> omega
  have hlA : BI 0 (R 0 (tn r0 % 2 ^ S 0 2)) + 1 ≤ A 1 := by by_cases h : BI 0 (R 0 (tn r0 % 2 ^ S 0 2)) = S 0 2 <;> omega
  generalize hRR : spR S R BI r0 = R1
  generalize hDD : spD S R BI r0 = d1 at hdA ⊢
  have rest : ∀ G1, CS y sz A (va_up S 0 (s3 d1 (S 0 3) (S 0 4))) (va_up R 0 R1) DB T BI BD P M G1 → V p l e ⟨2, 6, 70, 45⟩ s m args below meth c w G1 sz 0 0 (mQ w below args s ⟨2, 6, 70, 45⟩ (fun v G' sz' => v = none ∧ sz' = sz + 6 ∧ CS y (sz + 6) A (va_up S 0 (s3 (d1) (S 0 3 + 1) (S 0 4))) (va_up R 0 (entR (entR R1 (2 ^ d1) sz (BI 0 (R 0 (tn r0 % 2 ^ S 0 2)) + 1) (tn (r0 &&& (nI (2 ^ BI 0 (R 0 (tn r0 % 2 ^ S 0 2))) ^^^ (-1))))) (2 ^ d1) (sz + 3) (BI 0 (R 0 (tn r0 % 2 ^ S 0 2)) + 1) (tn (r0 ||| nI (2 ^ BI 0 (R 0 (tn r0 % 2 ^ S 0 2))))))) DB T (setI (setI BI sz (BI 0 (R 0 (tn r0 % 2 ^ S 0 2)) + 1) (spL (BD 0 (R 0 (tn r0 % 2 ^ S 0 2))) (BD 1 (R 0 (tn r0 % 2 ^ S 0 2))) (nI (2 ^ BI 0 (R 0 (tn r0 % 2 ^ S 0 2)))) true (BI 3 (R 0 (tn r0 % 2 ^ S 0 2)))).2.2 0) (sz + 3) (BI 0 (R 0 (tn r0 % 2 ^ S 0 2)) + 1) (spL (BD 0 (R 0 (tn r0 % 2 ^ S 0 2))) (BD 1 (R 0 (tn r0 % 2 ^ S 0 2))) (nI (2 ^ BI 0 (R 0 (tn r0 % 2 ^ S 0 2)))) false (BI 3 (R 0 (tn r0 % 2 ^ S 0 2)))).2.2 0) (setD (setD BD sz (spL (BD 0 (R 0 (tn r0 % 2 ^ S 0 2))) (BD 1 (R 0 (tn r0 % 2 ^ S 0 2))) (nI (2 ^ BI 0 (R 0 (tn r0 % 2 ^ S 0 2)))) true (BI 3 (R 0 (tn r0 % 2 ^ S 0 2)))).1 (spL (BD 0 (R 0 (tn r0 % 2 ^ S 0 2))) (BD 1 (R 0 (tn r0 % 2 ^ S 0 2))) (nI (2 ^ BI 0 (R 0 (tn r0 % 2 ^ S 0 2)))) true (BI 3 (R 0 (tn r0 % 2 ^ S 0 2)))).2.1) (sz + 3) (spL (BD 0 (R 0 (tn r0 % 2 ^ S 0 2))) (BD 1 (R 0 (tn r0 % 2 ^ S 0 2))) (nI (2 ^ BI 0 (R 0 (tn r0 % 2 ^ S 0 2)))) false (BI 3 (R 0 (tn r0 % 2 ^ S 0 2)))).1 (spL (BD 0 (R 0 (tn r0 % 2 ^ S 0 2))) (BD 1 (R 0 (tn r0 % 2 ^ S 0 2))) (nI (2 ^ BI 0 (R 0 (tn r0 % 2 ^ S 0 2)))) false (BI 3 (R 0 (tn r0 % 2 ^ S 0 2)))).2.1) (fun q => (P q ∨ q = sz) ∨ q = sz + 3) M G')) 30 [some (.ref (y)), some (.int (r0)), some (.ref (R 0 (tn r0 % 2 ^ S 0 2))), none, none, none, none, none] [] := by
    intro G1 hC1
    have hpd : 2 ^ d1 ≤ 2 ^ A 1 := Nat.pow_le_pow_right (by omega) hdA
    refine V.iconst (v := nI 1) k dX2_splitBucketOf_30 (by decide) ?_
    refine V.aload_n k dX2_splitBucketOf_31 rfl ?_
    refine V.getf (v := .int (nI (BI 0 (R 0 (tn r0 % 2 ^ S 0 2))))) k dX2_splitBucketOf_32 fl_X2_splitBucketOf_81 ((hC1.bk hb).1) rfl ?_
    refine V.ishl (v := (nI (2 ^ (BI 0 (R 0 (tn r0 % 2 ^ S 0 2)))))) k dX2_splitBucketOf_35 (shl1 (by omega)) ?_
    refine V.istore_n (L' := [some (.ref (y)), some (.int (r0)), some (.ref (R 0 (tn r0 % 2 ^ S 0 2))), some (.int (nI (2 ^ (BI 0 (R 0 (tn r0 % 2 ^ S 0 2)))))), none, none, none, none]) k dX2_splitBucketOf_36 (Nat.le_of_ble_eq_true rfl) rfl ?_
    refine V.new (ci := 0) (N := 5) (fs := [.int (nI (0)), .null, .null, .int (nI (0)), .int (nI (0))]) k dX2_splitBucketOf_37 rfl (fun _ h => List.mem_cons_of_mem _ (List.mem_append_left _ (List.mem_append_right _ h))) tyX0_ok (List.mem_of_getElem? (i := 4) rfl) (List.mem_of_getElem? (i := 5) rfl) (List.mem_of_getElem? (i := 6) rfl) (fun j hj => by rcases (show j = 0 ∨ j = 1 ∨ j = 2 ∨ j = 3 ∨ j = 4 by omega) with rfl | rfl | rfl | rfl | rfl <;> rfl) (Nat.le_of_ble_eq_true rfl) (Nat.le_of_ble_eq_true rfl) ?_
    refine V.dup k dX2_splitBucketOf_40 rfl ?_
    refine V.aload_n k dX2_splitBucketOf_41 rfl ?_
    refine V.getf (v := .int (nI (BI 0 (R 0 (tn r0 % 2 ^ S 0 2))))) k dX2_splitBucketOf_42 fl_X2_splitBucketOf_81 ((gup_ne _ _ (by omega)).trans ((hC1.bk hb).1)) rfl ?_
    refine V.iconst (v := nI 1) k dX2_splitBucketOf_45 (by decide) ?_
    refine V.iadd (v := (nI ((BI 0 (R 0 (tn r0 % 2 ^ S 0 2))) + 1))) k dX2_splitBucketOf_46 (nI_add _ _) ?_
    refine V.callI (As := [.int (nI ((BI 0 (R 0 (tn r0 % 2 ^ S 0 2))) + 1))]) k dX2_splitBucketOf_47 (c_X0_init l w sz (sz + 1) (gup G1 (sz) (gO 0 [.int (nI (0)), .null, .null, .int (nI (0)), .int (nI (0))])) (BI 0 (R 0 (tn r0 % 2 ^ S 0 2)) + 1) rfl (gup_self _ _ _)) gX2_splitBucketOf_X0_init rfl (List.mem_of_getElem? (i := 6) rfl) (List.mem_of_getElem? (i := 26) rfl) (List.mem_of_getElem? (i := 27) rfl) rfl hd_X0_init ⟨⟨Nat.le_of_ble_eq_true rfl, Nat.le_of_ble_eq_true rfl⟩, Nat.le_of_ble_eq_true rfl, Nat.le_of_ble_eq_true rfl⟩ rfl rfl rfl (Nat.le_of_ble_eq_true rfl) (fun v2 G2 sz2 hp2 => ?_)
    obtain ⟨rfl, rfl, hB2, hf2⟩ := hp2
    have hk2 : ∀ q, q < sz → G2 q = G1 q := fun q hq => (hf2 q hq).trans (gup_ne _ _ (by omega))
    refine V.stk (st' := [.ref (sz)]) rfl ?_
    have hBb2 := (hC1.bk hb)
    replace hBb2 : BkAt G2 _ _ _ _ _ _ := ⟨(hk2 _ (by omega)).trans hBb2.1, (hk2 _ (by omega)).trans hBb2.2.1, (hk2 _ (by omega)).trans hBb2.2.2⟩
    refine V.astore (L' := [some (.ref (y)), some (.int (r0)), some (.ref (R 0 (tn r0 % 2 ^ S 0 2))), some (.int (nI (2 ^ (BI 0 (R 0 (tn r0 % 2 ^ S 0 2)))))), some (.ref (sz)), none, none, none]) k dX2_splitBucketOf_50 (Nat.le_of_ble_eq_true rfl) rfl ?_
    refine V.new (ci := 0) (N := 5) (fs := [.int (nI (0)), .null, .null, .int (nI (0)), .int (nI (0))]) k dX2_splitBucketOf_52 rfl (fun _ h => List.mem_cons_of_mem _ (List.mem_append_left _ (List.mem_append_right _ h))) tyX0_ok (List.mem_of_getElem? (i := 4) rfl) (List.mem_of_getElem? (i := 5) rfl) (List.mem_of_getElem? (i := 6) rfl) (fun j hj => by rcases (show j = 0 ∨ j = 1 ∨ j = 2 ∨ j = 3 ∨ j = 4 by omega) with rfl | rfl | rfl | rfl | rfl <;> rfl) (Nat.le_of_ble_eq_true rfl) (Nat.le_of_ble_eq_true rfl) ?_
    refine V.dup k dX2_splitBucketOf_55 rfl ?_
    refine V.aload_n k dX2_splitBucketOf_56 rfl ?_
    refine V.getf (v := .int (nI (BI 0 (R 0 (tn r0 % 2 ^ S 0 2))))) k dX2_splitBucketOf_57 fl_X2_splitBucketOf_81 ((gup_ne _ _ (by omega)).trans (hBb2.1)) rfl ?_
    refine V.iconst (v := nI 1) k dX2_splitBucketOf_60 (by decide) ?_
    refine V.iadd (v := (nI ((BI 0 (R 0 (tn r0 % 2 ^ S 0 2))) + 1))) k dX2_splitBucketOf_61 (nI_add _ _) ?_
    refine V.callI (As := [.int (nI ((BI 0 (R 0 (tn r0 % 2 ^ S 0 2))) + 1))]) k dX2_splitBucketOf_62 (c_X0_init l w (sz + 3) (sz + 3 + 1) (gup G2 (sz + 3) (gO 0 [.int (nI (0)), .null, .null, .int (nI (0)), .int (nI (0))])) (BI 0 (R 0 (tn r0 % 2 ^ S 0 2)) + 1) rfl (gup_self _ _ _)) gX2_splitBucketOf_X0_init rfl (List.mem_of_getElem? (i := 6) rfl) (List.mem_of_getElem? (i := 26) rfl) (List.mem_of_getElem? (i := 27) rfl) rfl hd_X0_init ⟨⟨Nat.le_of_ble_eq_true rfl, Nat.le_of_ble_eq_true rfl⟩, Nat.le_of_ble_eq_true rfl, Nat.le_of_ble_eq_true rfl⟩ rfl rfl rfl (Nat.le_of_ble_eq_true rfl) (fun v3 G3 sz3 hp3 => ?_)
    obtain ⟨rfl, rfl, hB3, hf3⟩ := hp3
    have hk3 : ∀ q, q < sz + 3 → G3 q = G2 q := fun q hq => (hf3 q hq).trans (gup_ne _ _ (by omega))
    have hB23 : BkAt G3 sz _ _ _ _ _ := ⟨(hk3 _ (by omega)).trans hB2.1, (hk3 _ (by omega)).trans hB2.2.1, (hk3 _ (by omega)).trans hB2.2.2⟩
    have hk13 : ∀ q, q < sz → G3 q = G1 q := fun q hq => (hk3 q (by omega)).trans (hk2 q hq)
    clear hf3 hk3 hB2 hBb2 hf2 hk2
    refine V.stk (st' := [.ref (sz + 3)]) rfl ?_
    have lp : ∀ (nq i : Nat) (G4 : Pic), i ≤ BI 3 (R 0 (tn r0 % 2 ^ S 0 2)) → BI 3 (R 0 (tn r0 % 2 ^ S 0 2)) - i < nq → (BkAt G4 sz (BI 0 (R 0 (tn r0 % 2 ^ S 0 2)) + 1) (spL (BD 0 (R 0 (tn r0 % 2 ^ S 0 2))) (BD 1 (R 0 (tn r0 % 2 ^ S 0 2))) (nI (2 ^ BI 0 (R 0 (tn r0 % 2 ^ S 0 2)))) true i).2.2 0 (spL (BD 0 (R 0 (tn r0 % 2 ^ S 0 2))) (BD 1 (R 0 (tn r0 % 2 ^ S 0 2))) (nI (2 ^ BI 0 (R 0 (tn r0 % 2 ^ S 0 2)))) true i).1 (spL (BD 0 (R 0 (tn r0 % 2 ^ S 0 2))) (BD 1 (R 0 (tn r0 % 2 ^ S 0 2))) (nI (2 ^ BI 0 (R 0 (tn r0 % 2 ^ S 0 2)))) true i).2.1 ∧ BkAt G4 (sz + 3) (BI 0 (R 0 (tn r0 % 2 ^ S 0 2)) + 1) (spL (BD 0 (R 0 (tn r0 % 2 ^ S 0 2))) (BD 1 (R 0 (tn r0 % 2 ^ S 0 2))) (nI (2 ^ BI 0 (R 0 (tn r0 % 2 ^ S 0 2)))) false i).2.2 0 (spL (BD 0 (R 0 (tn r0 % 2 ^ S 0 2))) (BD 1 (R 0 (tn r0 % 2 ^ S 0 2))) (nI (2 ^ BI 0 (R 0 (tn r0 % 2 ^ S 0 2)))) false i).1 (spL (BD 0 (R 0 (tn r0 % 2 ^ S 0 2))) (BD 1 (R 0 (tn r0 % 2 ^ S 0 2))) (nI (2 ^ BI 0 (R 0 (tn r0 % 2 ^ S 0 2)))) false i).2.1 ∧ ∀ q, q < sz → G4 q = G1 q) → V p l e ⟨2, 6, 70, 45⟩ s m args below meth c w G4 (sz + 6) (0 + 1 + 2 + 1 + 2) (0 + 5 + 30 + 5 + 30) (mQ w below args s ⟨2, 6, 70, 45⟩ (fun v G' sz' => v = none ∧ sz' = sz + 6 ∧ CS y (sz + 6) A (va_up S 0 (s3 (d1) (S 0 3 + 1) (S 0 4))) (va_up R 0 (entR (entR R1 (2 ^ d1) sz (BI 0 (R 0 (tn r0 % 2 ^ S 0 2)) + 1) (tn (r0 &&& (nI (2 ^ BI 0 (R 0 (tn r0 % 2 ^ S 0 2))) ^^^ (-1))))) (2 ^ d1) (sz + 3) (BI 0 (R 0 (tn r0 % 2 ^ S 0 2)) + 1) (tn (r0 ||| nI (2 ^ BI 0 (R 0 (tn r0 % 2 ^ S 0 2))))))) DB T (setI (setI BI sz (BI 0 (R 0 (tn r0 % 2 ^ S 0 2)) + 1) (spL (BD 0 (R 0 (tn r0 % 2 ^ S 0 2))) (BD 1 (R 0 (tn r0 % 2 ^ S 0 2))) (nI (2 ^ BI 0 (R 0 (tn r0 % 2 ^ S 0 2)))) true (BI 3 (R 0 (tn r0 % 2 ^ S 0 2)))).2.2 0) (sz + 3) (BI 0 (R 0 (tn r0 % 2 ^ S 0 2)) + 1) (spL (BD 0 (R 0 (tn r0 % 2 ^ S 0 2))) (BD 1 (R 0 (tn r0 % 2 ^ S 0 2))) (nI (2 ^ BI 0 (R 0 (tn r0 % 2 ^ S 0 2)))) false (BI 3 (R 0 (tn r0 % 2 ^ S 0 2)))).2.2 0) (setD (setD BD sz (spL (BD 0 (R 0 (tn r0 % 2 ^ S 0 2))) (BD 1 (R 0 (tn r0 % 2 ^ S 0 2))) (nI (2 ^ BI 0 (R 0 (tn r0 % 2 ^ S 0 2)))) true (BI 3 (R 0 (tn r0 % 2 ^ S 0 2)))).1 (spL (BD 0 (R 0 (tn r0 % 2 ^ S 0 2))) (BD 1 (R 0 (tn r0 % 2 ^ S 0 2))) (nI (2 ^ BI 0 (R 0 (tn r0 % 2 ^ S 0 2)))) true (BI 3 (R 0 (tn r0 % 2 ^ S 0 2)))).2.1) (sz + 3) (spL (BD 0 (R 0 (tn r0 % 2 ^ S 0 2))) (BD 1 (R 0 (tn r0 % 2 ^ S 0 2))) (nI (2 ^ BI 0 (R 0 (tn r0 % 2 ^ S 0 2)))) false (BI 3 (R 0 (tn r0 % 2 ^ S 0 2)))).1 (spL (BD 0 (R 0 (tn r0 % 2 ^ S 0 2))) (BD 1 (R 0 (tn r0 % 2 ^ S 0 2))) (nI (2 ^ BI 0 (R 0 (tn r0 % 2 ^ S 0 2)))) false (BI 3 (R 0 (tn r0 % 2 ^ S 0 2)))).2.1) (fun q => (P q ∨ q = sz) ∨ q = sz + 3) M G')) 70 [some (.ref (y)), some (.int (r0)), some (.ref (R 0 (tn r0 % 2 ^ S 0 2))), some (.int (nI (2 ^ BI 0 (R 0 (tn r0 % 2 ^ S 0 2))))), some (.ref (sz)), some (.ref (sz + 3)), some (.int (nI (i))), none] [] := by
      intro nq
      induction nq with
      | zero => intro i G4 h1 h2 hI; omega
      | succ nq ih =>
        intro i G4 h1 h2 hI
        obtain ⟨hI1, hI2, hI3⟩ := hI
        have hBb := (hC1.bk hb)
        replace hBb : BkAt G4 _ _ _ _ _ _ := ⟨(hI3 _ (by omega)).trans hBb.1, (hI3 _ (by omega)).trans hBb.2.1, (hI3 _ (by omega)).trans hBb.2.2⟩
        have hlo := spL_le (BD 0 (R 0 (tn r0 % 2 ^ S 0 2))) (BD 1 (R 0 (tn r0 % 2 ^ S 0 2))) (nI (2 ^ BI 0 (R 0 (tn r0 % 2 ^ S 0 2)))) true i
        have hhi := spL_le (BD 0 (R 0 (tn r0 % 2 ^ S 0 2))) (BD 1 (R 0 (tn r0 % 2 ^ S 0 2))) (nI (2 ^ BI 0 (R 0 (tn r0 % 2 ^ S 0 2)))) false i
        refine V.iload k dX2_splitBucketOf_70 rfl ?_
        refine V.aload_n k dX2_splitBucketOf_72 rfl ?_
        refine V.getf (v := .int (nI (BI 3 (R 0 (tn r0 % 2 ^ S 0 2))))) k dX2_splitBucketOf_73 fl_X2_splitBucketOf_71 (hBb.1) rfl ?_
        refine V.n_ge (tgt := 129) k dX2_splitBucketOf_76 (by decide) (by omega) (by omega) (fun hi => ?_) (fun hi => ?_)
        · have hie : i = BI 3 (R 0 (tn r0 % 2 ^ S 0 2)) := by omega
          rw [hie] at hI1 hI2
          have hC2 := hC1.fresh hI1 hI3
          have hC3 := hC2.fresh hI2 (fun q _ => rfl)
          refine V.dropL 6 (L' := [some (.ref (y)), some (.int (r0)), some (.ref (R 0 (tn r0 % 2 ^ S 0 2))), some (.int (nI (2 ^ BI 0 (R 0 (tn r0 % 2 ^ S 0 2))))), some (.ref (sz)), some (.ref (sz + 3)), none, none]) rfl ?_
          refine V.aload_n k dX2_splitBucketOf_129 rfl ?_
          refine V.getf (v := .ref (y + 4)) k dX2_splitBucketOf_130 fl_X2_splitBucketOf_38 (hC3.1.1) rfl ?_
          refine V.aload k dX2_splitBucketOf_133 rfl ?_
          refine V.iload_n k dX2_splitBucketOf_135 rfl ?_
          refine V.iload_n k dX2_splitBucketOf_136 rfl ?_
          refine V.iconst (v := (-1)) k dX2_splitBucketOf_137 (by decide) ?_
          refine V.ixor (v := (nI (2 ^ BI 0 (R 0 (tn r0 % 2 ^ S 0 2))) ^^^ (-1))) k dX2_splitBucketOf_138 (rfl) ?_
          refine V.iand (v := (r0 &&& (nI (2 ^ BI 0 (R 0 (tn r0 % 2 ^ S 0 2))) ^^^ (-1)))) k dX2_splitBucketOf_139 (rfl) ?_
          refine V.callV (As := [.ref (sz), .int (r0 &&& (nI (2 ^ BI 0 (R 0 (tn r0 % 2 ^ S 0 2))) ^^^ (-1)))]) (ci := 1) k dX2_splitBucketOf_140 (c_X1_enter l w (y + 4) (sz + 6) G4 _ _ _ _ _ _ _ hC3.1.2.1 (show d1 ≤ 8 by omega) (by omega) (show 2 ^ d1 ≤ 2 ^ A 1 by omega) sz _ _ _ _ _ (r0 &&& (nI (2 ^ BI 0 (R 0 (tn r0 % 2 ^ S 0 2))) ^^^ (-1))) hI1 (by omega) (by omega)) gX2_splitBucketOf_X1_enter rfl rfl (hC3.1.2.1.1) ⟨rfl, hd_X1_enter⟩ ⟨⟨Nat.le_of_ble_eq_true rfl, Nat.le_of_ble_eq_true rfl⟩, Nat.le_of_ble_eq_true rfl, Nat.le_of_ble_eq_true rfl⟩ rfl rfl rfl (Nat.le_of_ble_eq_true rfl) (fun v5 G5 sz5 hp5 => ?_)
          obtain ⟨rfl, rfl, hS5, hs5⟩ := hp5
          have hC5 := hC3.liveG (S' := (va_up S 0 (s3 d1 (S 0 3) (S 0 4)))) (R' := (va_up R 0 (entR R1 (2 ^ d1) sz (BI 0 (R 0 (tn r0 % 2 ^ S 0 2)) + 1) (tn (r0 &&& (nI (2 ^ BI 0 (R 0 (tn r0 % 2 ^ S 0 2))) ^^^ (-1))))))) (DB' := DB) hS5 (fun _ _ => rfl) (fun j hj => by rw [va_up_ne _ _ hj, va_up_ne _ _ hj]) (fun _ _ => rfl) hs5
          have hI25 := hI2.sm hs5 (by omega)
          refine V.stk (st' := []) rfl ?_
          refine V.aload_n k dX2_splitBucketOf_143 rfl ?_
          refine V.getf (v := .ref (y + 4)) k dX2_splitBucketOf_144 fl_X2_splitBucketOf_38 (hC5.1.1) rfl ?_
          refine V.aload k dX2_splitBucketOf_147 rfl ?_
          refine V.iload_n k dX2_splitBucketOf_149 rfl ?_
          refine V.iload_n k dX2_splitBucketOf_150 rfl ?_
          refine V.ior (v := (r0 ||| nI (2 ^ BI 0 (R 0 (tn r0 % 2 ^ S 0 2))))) k dX2_splitBucketOf_151 (rfl) ?_
          refine V.callV (As := [.ref (sz + 3), .int (r0 ||| nI (2 ^ BI 0 (R 0 (tn r0 % 2 ^ S 0 2))))]) (ci := 1) k dX2_splitBucketOf_152 (c_X1_enter l w (y + 4) (sz + 6) G5 _ _ _ _ _ _ _ hC5.1.2.1 (show d1 ≤ 8 by omega) (by omega) (show 2 ^ d1 ≤ 2 ^ A 1 by omega) (sz + 3) _ _ _ _ _ (r0 ||| nI (2 ^ BI 0 (R 0 (tn r0 % 2 ^ S 0 2)))) hI25 (by omega) (by omega)) gX2_splitBucketOf_X1_enter rfl rfl (hC5.1.2.1.1) ⟨rfl, hd_X1_enter⟩ ⟨⟨Nat.le_of_ble_eq_true rfl, Nat.le_of_ble_eq_true rfl⟩, Nat.le_of_ble_eq_true rfl, Nat.le_of_ble_eq_true rfl⟩ rfl rfl rfl (Nat.le_of_ble_eq_true rfl) (fun v6 G6 sz6 hp6 => ?_)
          obtain ⟨rfl, rfl, hS6, hs6⟩ := hp6
          have hC6 := hC5.liveG (S' := (va_up S 0 (s3 d1 (S 0 3) (S 0 4)))) (R' := (va_up R 0 (entR (entR R1 (2 ^ d1) sz (BI 0 (R 0 (tn r0 % 2 ^ S 0 2)) + 1) (tn (r0 &&& (nI (2 ^ BI 0 (R 0 (tn r0 % 2 ^ S 0 2))) ^^^ (-1))))) (2 ^ d1) (sz + 3) (BI 0 (R 0 (tn r0 % 2 ^ S 0 2)) + 1) (tn (r0 ||| nI (2 ^ BI 0 (R 0 (tn r0 % 2 ^ S 0 2)))))))) (DB' := DB) hS6 (fun _ _ => rfl) (fun j hj => by rw [va_up_ne _ _ hj, va_up_ne _ _ hj]) (fun _ _ => rfl) hs6
          refine V.stk (st' := []) rfl ?_
          refine V.aload_n k dX2_splitBucketOf_155 rfl ?_
          refine V.getf (v := .ref (y + 4)) k dX2_splitBucketOf_156 fl_X2_splitBucketOf_38 (hC6.1.1) rfl ?_
          refine V.dup k dX2_splitBucketOf_159 rfl ?_
          refine V.getf (v := .int (nI (S 0 3))) k dX2_splitBucketOf_160 fl_X2_splitBucketOf_118 (hC6.1.2.1.1) rfl ?_
          refine V.iconst (v := nI 1) k dX2_splitBucketOf_163 (by decide) ?_
          refine V.iadd (v := (nI ((S 0 3) + 1))) k dX2_splitBucketOf_164 (nI_add _ _) ?_
          refine V.putf (fs' := [.ref (y + 5), .ref (y + 6), .int (nI (d1)), .int (nI ((S 0 3) + 1)), .int (nI (S 0 4))]) k dX2_splitBucketOf_165 fl_X2_splitBucketOf_118 ft_X1_3 (hC6.1.2.1.1) (by first | rfl | decide) rfl (Nat.le_of_ble_eq_true rfl) rfl ?_
          have hC7 := hC6.liveG (S' := va_up S 0 (s3 d1 (S 0 3 + 1) (S 0 4))) (R' := (va_up R 0 (entR (entR R1 (2 ^ d1) sz (BI 0 (R 0 (tn r0 % 2 ^ S 0 2)) + 1) (tn (r0 &&& (nI (2 ^ BI 0 (R 0 (tn r0 % 2 ^ S 0 2))) ^^^ (-1))))) (2 ^ d1) (sz + 3) (BI 0 (R 0 (tn r0 % 2 ^ S 0 2)) + 1) (tn (r0 ||| nI (2 ^ BI 0 (R 0 (tn r0 % 2 ^ S 0 2)))))))) (DB' := DB) (G' := (gup G6 (y + 4) (gO 1 [.ref (y + 5), .ref (y + 6), .int (nI (d1)), .int (nI ((S 0 3) + 1)), .int (nI (S 0 4))]))) ⟨gup_self _ _ _, (gup_ne _ _ (by omega)).trans hC6.1.2.1.2.1, (gup_ne _ _ (by omega)).trans hC6.1.2.1.2.2⟩ (fun j hj => by rw [va_up_ne _ _ hj, va_up_ne _ _ hj]) (fun _ _ => rfl) (fun _ _ => rfl) (Sm.up _ (by omega))
          exact V.vret k hM dX2_splitBucketOf_168 (Nat.le_of_ble_eq_true rfl) (Nat.le_of_ble_eq_true rfl) (⟨rfl, rfl, hC7⟩)
        · refine V.aload_n k dX2_splitBucketOf_79 rfl ?_
          refine V.getf (v := .ref (R 0 (tn r0 % 2 ^ S 0 2) + 1)) k dX2_splitBucketOf_80 fl_X2_splitBucketOf_141 (hBb.1) rfl ?_
          refine V.iload k dX2_splitBucketOf_83 rfl ?_
          refine V.iald (v := ((BD 0 (R 0 (tn r0 % 2 ^ S 0 2))) (i))) k dX2_splitBucketOf_85 (hBb.2.1) rfl (by omega) (by omega) (rfl) ?_
          refine V.cS (As := [.int ((BD 0 (R 0 (tn r0 % 2 ^ S 0 2))) (i))]) (st1 := [.int (mx (BD 0 (R 0 (tn r0 % 2 ^ S 0 2)) i))]) k dX2_splitBucketOf_86 (c_X2_mix l w G4 (sz + 6) (BD 0 (R 0 (tn r0 % 2 ^ S 0 2)) i)) gX2_splitBucketOf_X2_mix rfl hd_X2_mix ⟨⟨Nat.le_of_ble_eq_true rfl, Nat.le_of_ble_eq_true rfl⟩, Nat.le_of_ble_eq_true rfl, Nat.le_of_ble_eq_true rfl⟩ rfl rfl rfl (Nat.le_of_ble_eq_true rfl) rfl ?_
          refine V.iload_n k dX2_splitBucketOf_89 rfl ?_
          refine V.iand (v := (mx (BD 0 (R 0 (tn r0 % 2 ^ S 0 2)) i) &&& nI (2 ^ BI 0 (R 0 (tn r0 % 2 ^ S 0 2))))) k dX2_splitBucketOf_90 (rfl) ?_
          refine V.if_ne (tgt := 99) k dX2_splitBucketOf_91 (by decide) (fun hq => ?_) (fun hq => ?_)
          · refine V.aload k dX2_splitBucketOf_99 rfl ?_
            refine V.astore (L' := [some (.ref (y)), some (.int (r0)), some (.ref (R 0 (tn r0 % 2 ^ S 0 2))), some (.int (nI (2 ^ BI 0 (R 0 (tn r0 % 2 ^ S 0 2))))), some (.ref (sz)), some (.ref (sz + 3)), some (.int (nI (i))), some (.ref (sz + 3))]) k dX2_splitBucketOf_101 (Nat.le_of_ble_eq_true rfl) rfl ?_
            refine V.aload k dX2_splitBucketOf_103 rfl ?_
            refine V.aload_n k dX2_splitBucketOf_105 rfl ?_
            refine V.getf (v := .ref (R 0 (tn r0 % 2 ^ S 0 2) + 1)) k dX2_splitBucketOf_106 fl_X2_splitBucketOf_141 (hBb.1) rfl ?_
            refine V.iload k dX2_splitBucketOf_109 rfl ?_
            refine V.iald (v := ((BD 0 (R 0 (tn r0 % 2 ^ S 0 2))) (i))) k dX2_splitBucketOf_111 (hBb.2.1) rfl (by omega) (by omega) (rfl) ?_
            refine V.aload_n k dX2_splitBucketOf_112 rfl ?_
            refine V.getf (v := .ref (R 0 (tn r0 % 2 ^ S 0 2) + 2)) k dX2_splitBucketOf_113 fl_X2_splitBucketOf_101 (hBb.1) rfl ?_
            refine V.iload k dX2_splitBucketOf_116 rfl ?_
            refine V.iald (v := ((BD 1 (R 0 (tn r0 % 2 ^ S 0 2))) (i))) k dX2_splitBucketOf_118 (hBb.2.2) rfl (by omega) (by omega) (rfl) ?_
            refine V.callV (As := [.int ((BD 0 (R 0 (tn r0 % 2 ^ S 0 2))) (i)), .int ((BD 1 (R 0 (tn r0 % 2 ^ S 0 2))) (i))]) (ci := 0) k dX2_splitBucketOf_119 (c_X0_store_any l w (sz + 3) (sz + 6) G4 _ _ _ _ _ hI2 (by omega) (BD 0 (R 0 (tn r0 % 2 ^ S 0 2)) i) (BD 1 (R 0 (tn r0 % 2 ^ S 0 2)) i) (by omega)) gX2_splitBucketOf_X0_store rfl rfl (hI2.1) ⟨rfl, hd_X0_store⟩ ⟨⟨Nat.le_of_ble_eq_true rfl, Nat.le_of_ble_eq_true rfl⟩, Nat.le_of_ble_eq_true rfl, Nat.le_of_ble_eq_true rfl⟩ rfl rfl rfl (Nat.le_of_ble_eq_true rfl) (fun v5 G5 sz5 hp5 => ?_)
            obtain ⟨⟨x5, rfl⟩, rfl, hB5, hs5⟩ := hp5
            refine V.stk (st' := [.int x5]) rfl ?_
            refine V.pop k dX2_splitBucketOf_122 rfl ?_
            refine V.dropL 7 (L' := [some (.ref (y)), some (.int (r0)), some (.ref (R 0 (tn r0 % 2 ^ S 0 2))), some (.int (nI (2 ^ BI 0 (R 0 (tn r0 % 2 ^ S 0 2))))), some (.ref (sz)), some (.ref (sz + 3)), some (.int (nI (i))), none]) rfl ?_
            refine V.iinc (x := (nI (i))) (v := (nI (i + 1))) (L' := [some (.ref (y)), some (.int (r0)), some (.ref (R 0 (tn r0 % 2 ^ S 0 2))), some (.int (nI (2 ^ BI 0 (R 0 (tn r0 % 2 ^ S 0 2))))), some (.ref (sz)), some (.ref (sz + 3)), some (.int (nI (i + 1))), none]) k dX2_splitBucketOf_123 rfl (nI_inc1 _) rfl ?_
            refine V.goto (tgt := 70) k dX2_splitBucketOf_126 (by decide) ?_
            refine ih (i + 1) G5 (by omega) (by omega) ⟨?_, ?_, fun q hq => (hs5 q (Or.inl (by omega))).trans (hI3 q hq)⟩
            · rw [show spL (BD 0 (R 0 (tn r0 % 2 ^ S 0 2))) (BD 1 (R 0 (tn r0 % 2 ^ S 0 2))) (nI (2 ^ BI 0 (R 0 (tn r0 % 2 ^ S 0 2)))) true (i + 1) = spL (BD 0 (R 0 (tn r0 % 2 ^ S 0 2))) (BD 1 (R 0 (tn r0 % 2 ^ S 0 2))) (nI (2 ^ BI 0 (R 0 (tn r0 % 2 ^ S 0 2)))) true i from spL_n (by rw [decide_eq_false hq]; decide)]; exact hI1.sm hs5 (by omega)
            · rw [show spL (BD 0 (R 0 (tn r0 % 2 ^ S 0 2))) (BD 1 (R 0 (tn r0 % 2 ^ S 0 2))) (nI (2 ^ BI 0 (R 0 (tn r0 % 2 ^ S 0 2)))) false (i + 1) = sto (spL (BD 0 (R 0 (tn r0 % 2 ^ S 0 2))) (BD 1 (R 0 (tn r0 % 2 ^ S 0 2))) (nI (2 ^ BI 0 (R 0 (tn r0 % 2 ^ S 0 2)))) false i) _ _ from spL_y (by rw [decide_eq_false hq])]; exact hB5
          · refine V.aload k dX2_splitBucketOf_94 rfl ?_
            refine V.goto (tgt := 101) k dX2_splitBucketOf_96 (by decide) ?_
            refine V.astore (L' := [some (.ref (y)), some (.int (r0)), some (.ref (R 0 (tn r0 % 2 ^ S 0 2))), some (.int (nI (2 ^ BI 0 (R 0 (tn r0 % 2 ^ S 0 2))))), some (.ref (sz)), some (.ref (sz + 3)), some (.int (nI (i))), some (.ref (sz))]) k dX2_splitBucketOf_101 (Nat.le_of_ble_eq_true rfl) rfl ?_
            refine V.aload k dX2_splitBucketOf_103 rfl ?_
            refine V.aload_n k dX2_splitBucketOf_105 rfl ?_
            refine V.getf (v := .ref (R 0 (tn r0 % 2 ^ S 0 2) + 1)) k dX2_splitBucketOf_106 fl_X2_splitBucketOf_141 (hBb.1) rfl ?_
            refine V.iload k dX2_splitBucketOf_109 rfl ?_
            refine V.iald (v := ((BD 0 (R 0 (tn r0 % 2 ^ S 0 2))) (i))) k dX2_splitBucketOf_111 (hBb.2.1) rfl (by omega) (by omega) (rfl) ?_
            refine V.aload_n k dX2_splitBucketOf_112 rfl ?_
            refine V.getf (v := .ref (R 0 (tn r0 % 2 ^ S 0 2) + 2)) k dX2_splitBucketOf_113 fl_X2_splitBucketOf_101 (hBb.1) rfl ?_
            refine V.iload k dX2_splitBucketOf_116 rfl ?_
            refine V.iald (v := ((BD 1 (R 0 (tn r0 % 2 ^ S 0 2))) (i))) k dX2_splitBucketOf_118 (hBb.2.2) rfl (by omega) (by omega) (rfl) ?_
            refine V.callV (As := [.int ((BD 0 (R 0 (tn r0 % 2 ^ S 0 2))) (i)), .int ((BD 1 (R 0 (tn r0 % 2 ^ S 0 2))) (i))]) (ci := 0) k dX2_splitBucketOf_119 (c_X0_store_any l w (sz) (sz + 6) G4 _ _ _ _ _ hI1 (by omega) (BD 0 (R 0 (tn r0 % 2 ^ S 0 2)) i) (BD 1 (R 0 (tn r0 % 2 ^ S 0 2)) i) (by omega)) gX2_splitBucketOf_X0_store rfl rfl (hI1.1) ⟨rfl, hd_X0_store⟩ ⟨⟨Nat.le_of_ble_eq_true rfl, Nat.le_of_ble_eq_true rfl⟩, Nat.le_of_ble_eq_true rfl, Nat.le_of_ble_eq_true rfl⟩ rfl rfl rfl (Nat.le_of_ble_eq_true rfl) (fun v5 G5 sz5 hp5 => ?_)
            obtain ⟨⟨x5, rfl⟩, rfl, hB5, hs5⟩ := hp5
            refine V.stk (st' := [.int x5]) rfl ?_
            refine V.pop k dX2_splitBucketOf_122 rfl ?_
            refine V.dropL 7 (L' := [some (.ref (y)), some (.int (r0)), some (.ref (R 0 (tn r0 % 2 ^ S 0 2))), some (.int (nI (2 ^ BI 0 (R 0 (tn r0 % 2 ^ S 0 2))))), some (.ref (sz)), some (.ref (sz + 3)), some (.int (nI (i))), none]) rfl ?_
            refine V.iinc (x := (nI (i))) (v := (nI (i + 1))) (L' := [some (.ref (y)), some (.int (r0)), some (.ref (R 0 (tn r0 % 2 ^ S 0 2))), some (.int (nI (2 ^ BI 0 (R 0 (tn r0 % 2 ^ S 0 2))))), some (.ref (sz)), some (.ref (sz + 3)), some (.int (nI (i + 1))), none]) k dX2_splitBucketOf_123 rfl (nI_inc1 _) rfl ?_
            refine V.goto (tgt := 70) k dX2_splitBucketOf_126 (by decide) ?_
            refine ih (i + 1) G5 (by omega) (by omega) ⟨?_, ?_, fun q hq => (hs5 q (Or.inl hq)).trans (hI3 q hq)⟩
            · rw [show spL (BD 0 (R 0 (tn r0 % 2 ^ S 0 2))) (BD 1 (R 0 (tn r0 % 2 ^ S 0 2))) (nI (2 ^ BI 0 (R 0 (tn r0 % 2 ^ S 0 2)))) true (i + 1) = sto (spL (BD 0 (R 0 (tn r0 % 2 ^ S 0 2))) (BD 1 (R 0 (tn r0 % 2 ^ S 0 2))) (nI (2 ^ BI 0 (R 0 (tn r0 % 2 ^ S 0 2)))) true i) _ _ from spL_y (by rw [decide_eq_true hq])]; exact hB5
            · rw [show spL (BD 0 (R 0 (tn r0 % 2 ^ S 0 2))) (BD 1 (R 0 (tn r0 % 2 ^ S 0 2))) (nI (2 ^ BI 0 (R 0 (tn r0 % 2 ^ S 0 2)))) false (i + 1) = spL (BD 0 (R 0 (tn r0 % 2 ^ S 0 2))) (BD 1 (R 0 (tn r0 % 2 ^ S 0 2))) (nI (2 ^ BI 0 (R 0 (tn r0 % 2 ^ S 0 2)))) false i from spL_n (by rw [decide_eq_true hq]; decide)]; exact hI2.sm hs5 (by omega)
    refine V.astore (L' := [some (.ref (y)), some (.int (r0)), some (.ref (R 0 (tn r0 % 2 ^ S 0 2))), some (.int (nI (2 ^ (BI 0 (R 0 (tn r0 % 2 ^ S 0 2)))))), some (.ref (sz)), some (.ref (sz + 3)), none, none]) k dX2_splitBucketOf_65 (Nat.le_of_ble_eq_true rfl) rfl ?_
    refine V.iconst (v := nI 0) k dX2_splitBucketOf_67 (by decide) ?_
    refine V.istore (L' := [some (.ref (y)), some (.int (r0)), some (.ref (R 0 (tn r0 % 2 ^ S 0 2))), some (.int (nI (2 ^ (BI 0 (R 0 (tn r0 % 2 ^ S 0 2)))))), some (.ref (sz)), some (.ref (sz + 3)), some (.int (nI (0))), none]) k dX2_splitBucketOf_68 (Nat.le_of_ble_eq_true rfl) rfl ?_
    exact lp (BI 3 (R 0 (tn r0 % 2 ^ S 0 2)) + 1) 0 G3 (by omega) (by omega) ⟨hB23, hB3, hk13⟩
  refine V.aload_n k dX2_splitBucketOf_0 rfl ?_
  refine V.getf (v := .ref (y + 4)) k dX2_splitBucketOf_1 fl_X2_splitBucketOf_38 (hC.1.1) rfl ?_
  refine V.iload_n k dX2_splitBucketOf_4 rfl ?_
  refine V.cV (As := [.int (r0)]) (ci := 1) (st1 := [.ref (R 0 (tn r0 % 2 ^ S 0 2))]) k dX2_splitBucketOf_5 (c_X1_bucketOf l w (y + 4) sz G _ _ _ _ _ _ _ hC.1.2.1 (by omega) (by omega) (by omega) r0) gX2_splitBucketOf_X1_bucketOf rfl rfl (hC.1.2.1.1) ⟨rfl, hd_X1_bucketOf⟩ ⟨⟨Nat.le_of_ble_eq_true rfl, Nat.le_of_ble_eq_true rfl⟩, Nat.le_of_ble_eq_true rfl, Nat.le_of_ble_eq_true rfl⟩ rfl rfl rfl (Nat.le_of_ble_eq_true rfl) rfl ?_
  refine V.astore_n (L' := [some (.ref (y)), some (.int (r0)), some (.ref (R 0 (tn r0 % 2 ^ S 0 2))), none, none, none, none, none]) k dX2_splitBucketOf_8 (Nat.le_of_ble_eq_true rfl) rfl ?_
  refine V.aload_n k dX2_splitBucketOf_9 rfl ?_
  refine V.getf (v := .int (nI (BI 0 (R 0 (tn r0 % 2 ^ S 0 2))))) k dX2_splitBucketOf_10 fl_X2_splitBucketOf_81 ((hC.bk hb).1) rfl ?_
  refine V.aload_n k dX2_splitBucketOf_13 rfl ?_
  refine V.getf (v := .ref (y + 4)) k dX2_splitBucketOf_14 fl_X2_splitBucketOf_38 (hC.1.1) rfl ?_
  refine V.getf (v := .int (nI (S 0 2))) k dX2_splitBucketOf_17 fl_X2_splitBucketOf_115 (hC.1.2.1.1) rfl ?_
  refine V.n_ne (tgt := 30) k dX2_splitBucketOf_20 (by decide) (by omega) (by omega) (fun hq => ?_) (fun hq => ?_)
  · have h1 : spR S R BI r0 = R 0 := if_neg hq
    have h2 : spD S R BI r0 = S 0 2 := if_neg hq
    rw [hRR] at h1
    rw [hDD] at h2
    subst h1
    subst h2
    exact rest G (hC.liveG hC.1.2.1 (fun j hj => va_up_ne _ _ hj) (fun j hj => va_up_ne _ _ hj) (fun _ _ => rfl) (Sm.rf _ _))
  · have h1 : spR S R BI r0 = dblR (R 0) (2 ^ S 0 2) (2 ^ S 0 2) := if_pos hq
    have h2 : spD S R BI r0 = S 0 2 + 1 := if_pos hq
    rw [hRR] at h1
    rw [hDD] at h2
    subst h1
    subst h2
    have hpw2 : 2 ^ (S 0 2 + 1) ≤ 2 ^ A 1 := Nat.pow_le_pow_right (by omega) (hroom hq)
    have hpe : 2 ^ (S 0 2 + 1) = 2 ^ S 0 2 + 2 ^ S 0 2 := by rw [Nat.pow_succ]; omega
    refine V.aload_n k dX2_splitBucketOf_23 rfl ?_
    refine V.getf (v := .ref (y + 4)) k dX2_splitBucketOf_24 fl_X2_splitBucketOf_38 (hC.1.1) rfl ?_
    refine V.callV (As := []) (ci := 1) k dX2_splitBucketOf_27 (c_X1_doubleDirectory l w (y + 4) sz G _ _ _ _ _ _ _ hC.1.2.1 (by omega) (by omega) (by omega) (by omega) (fun j hj => ⟨⟨_, (hC.bk (hR j hj)).1⟩, by have := hC.at (hR j hj); omega⟩)) gX2_splitBucketOf_X1_doubleDirectory rfl rfl (hC.1.2.1.1) ⟨rfl, hd_X1_doubleDirectory⟩ ⟨⟨Nat.le_of_ble_eq_true rfl, Nat.le_of_ble_eq_true rfl⟩, Nat.le_of_ble_eq_true rfl, Nat.le_of_ble_eq_true rfl⟩ rfl rfl rfl (Nat.le_of_ble_eq_true rfl) (fun v1 G1 sz1 hp1 => ?_)
    obtain ⟨rfl, rfl, hS1, hs1⟩ := hp1
    refine V.stk (st' := []) rfl ?_
    exact rest G1 (hC.liveG hS1 (fun j hj => va_up_ne _ _ hj) (fun j hj => va_up_ne _ _ hj) (fun _ _ => rfl) hs1)
