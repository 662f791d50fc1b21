theorem arrV_congr {cI : ClassId} {n : Nat} {f f' : Nat → Value} (h : ∀ j, j < n → f j = f' j) : arrV cI n f = arrV cI n f' := by
  unfold arrV
  congr 2
  funext j
  exact h j.val j.isLt
section VP
variable {p : Program} {l : Launch} {e : Env} {R : Room} {s : State} {m : MethodId} {args : Array Value} {below : List Frame} {meth : Method} {c : Code} {w : Wd} {G : Pic} {sz cells slots : Nat} {Q : State → Prop} {L : List (Option Value)} {st : List Value} {pc : Nat}
theorem V.picB {a n : Nat} {f f' : Nat → Option Nat} (hG : G a = some (gB n f)) (hf : ∀ j, j < n → f j = f' j) (h : V p l e R s m args below meth c w (gup G a (gB n f')) sz cells slots Q pc L st) : V p l e R s m args below meth c w G sz cells slots Q pc L st := fun H locs ls X y q => by
  refine h H locs ls (X.put hG rfl ?_ (fun _ _ => rfl)) y q
  have h1 := (X.2.2 a _ hG).2
  have h2 : H[a]? = some (arrV (w.2.1 2) n (fun j => va_rf (f j))) := h1
  show H[a]? = some (vp_cell _ _)
  rw [h2, vp_cell_q]
  exact congrArg some (arrV_congr fun j hj => by rw [hf j hj])
theorem V.picS {a n : Nat} {f f' : Nat → Option Nat} (hG : G a = some (gS n f)) (hf : ∀ j, j < n → f j = f' j) (h : V p l e R s m args below meth c w (gup G a (gS n f')) sz cells slots Q pc L st) : V p l e R s m args below meth c w G sz cells slots Q pc L st := fun H locs ls X y q => by
  refine h H locs ls (X.put hG rfl ?_ (fun _ _ => rfl)) y q
  have h1 := (X.2.2 a _ hG).2
  have h2 : H[a]? = some (arrV (w.2.1 3) n (fun j => va_rf (f j))) := h1
  show H[a]? = some (vp_cell _ _)
  rw [h2, vp_cell_q]
  exact congrArg some (arrV_congr fun j hj => by rw [hf j hj])
end VP
/-- the directory with a bucket entered -/
def entR (R : Nat → Nat) (E bk loc r : Nat) : Nat → Nat := fun j => if j < E ∧ j % 2 ^ loc = r % 2 ^ loc then bk else R j
/-- doubled, the first i entries so far -/
def dblR (R : Nat → Nat) (E i : Nat) : Nat → Nat := fun j => if E ≤ j ∧ j < E + i then R (j - E) else R j
theorem dblR_0 (R : Nat → Nat) (E : Nat) : dblR R E 0 = R := by
  funext j
  unfold dblR
  rw [if_neg (by omega)]
theorem dblR_s (R : Nat → Nat) {E i : Nat} (h : i < E) : va_up (dblR R E i) (E + i) (R i) = dblR R E (i + 1) := by
  funext j
  unfold va_up dblR
  by_cases hj : j = E + i
  · rw [if_pos hj, if_pos (by omega), show j - E = i by omega]
  · rw [if_neg hj]
    by_cases h2 : E ≤ j ∧ j < E + i
    · rw [if_pos h2, if_pos (by omega)]
    · rw [if_neg h2, if_neg (by omega)]
theorem dblR_lo (R : Nat → Nat) {E i j : Nat} (h : j < E) : dblR R E i j = R j := by
  unfold dblR
  rw [if_neg (by omega)]
theorem modeq_ge {i j m : Nat} (hm : 0 < m) (h1 : i ≤ j) (h2 : j < i + m) (h3 : j % m = i % m) : j = i := by
  have h4 := Nat.sub_mod_eq_zero_of_mod_eq h3
  have h5 : (j - i) % m = j - i := Nat.mod_eq_of_lt (by omega)
  omega
theorem entR_s (R : Nat → Nat) {i bk loc r : Nat} (hi : i % 2 ^ loc = r % 2 ^ loc) : va_up (entR R i bk loc r) i bk = entR R (i + 2 ^ loc) bk loc r := by
  have hm := Nat.two_pow_pos loc
  funext j
  unfold va_up entR
  by_cases hj : j = i
  · subst hj; rw [if_pos rfl, if_pos ⟨by omega, hi⟩]
  · rw [if_neg hj]
    by_cases h2 : j < i ∧ j % 2 ^ loc = r % 2 ^ loc
    · rw [if_pos h2, if_pos ⟨by omega, h2.2⟩]
    · rw [if_neg h2, if_neg]
      intro h3
      rcases Nat.lt_or_ge j i with h4 | h4
      · exact h2 ⟨h4, h3.2⟩
      · exact hj (modeq_ge hm h4 h3.1 (h3.2.trans hi.symm))
theorem entR_end (R : Nat → Nat) {i E bk loc r : Nat} (hi : i % 2 ^ loc = r % 2 ^ loc) (h1 : E ≤ i) (h2 : i < E + 2 ^ loc) : entR R i bk loc r = entR R E bk loc r := by
  have hm := Nat.two_pow_pos loc
  funext j
  unfold entR
  by_cases h3 : j < E ∧ j % 2 ^ loc = r % 2 ^ loc
  · rw [if_pos h3, if_pos ⟨by omega, h3.2⟩]
  · rw [if_neg h3, if_neg]
    intro h4
    rcases Nat.lt_or_ge j E with h5 | h5
    · exact h3 ⟨h5, h4.2⟩
    · have := modeq_ge hm (Nat.le_of_lt h4.1) (by omega : i < j + 2 ^ loc) (hi.trans h4.2.symm)
      omega
theorem entR_0 (R : Nat → Nat) {bk loc r : Nat} : entR R (r % 2 ^ loc) bk loc r = R := by
  funext j
  unfold entR
  rw [if_neg]
  intro h
  have h1 : j % 2 ^ loc = j := Nat.mod_eq_of_lt (Nat.lt_trans h.1 (Nat.mod_lt _ (Nat.two_pow_pos loc)))
  omega
theorem anyD_iff (D : Nat → Nat) (v : Nat) : ∀ n, anyD D v n = true ↔ ∃ j, j < n ∧ D j = v
  | 0 => by simp [anyD]
  | n + 1 => by
    have ih := anyD_iff D v n
    unfold anyD
    rw [Bool.or_eq_true, ih, decide_eq_true_eq]
    constructor
    · rintro (⟨j, h1, h2⟩ | h)
      · exact ⟨j, by omega, h2⟩
      · exact ⟨n, by omega, h⟩
    · rintro ⟨j, h1, h2⟩
      by_cases hj : j = n
      · right; rw [← hj]; exact h2
      · left; exact ⟨j, by omega, h2⟩
theorem anyD_no {D : Nat → Nat} {v n : Nat} (h : ∀ j, j < n → D j ≠ v) : anyD D v n = false := by
  cases hq : anyD D v n with
  | false => rfl
  | true => obtain ⟨j, h1, h2⟩ := (anyD_iff D v n).mp hq; exact absurd h2 (h j h1)
theorem lt_mod {i l : Nat} : i < 2 ^ l ↔ i % 2 ^ l = i := by
  constructor
  · exact Nat.mod_eq_of_lt
  · intro h; rw [← h]; exact Nat.mod_lt _ (Nat.two_pow_pos l)
theorem fl_X1_entries_29 : FL wsX1_entries RX1 29 1 2 := ⟨RX1, TX1, 5, rfl, (fun _ h => List.mem_cons_of_mem _ (List.mem_append_right _ h)), by decide, List.mem_of_getElem? (i := 1) rfl, rfl⟩
set_option maxHeartbeats 4000000 in
set_option maxRecDepth 100000 in
theorem c_X1_entries (l : Launch) (w : Wd) (a sz : Nat) (G : Pic) (dep nb nk n g : Nat) (R DB : Nat → Nat) (hS : StAt G a dep nb nk n g R DB) (hd : dep ≤ 8) (hn : n ≤ 256) (hdn : 2 ^ dep ≤ n) : Ct l w yX1_entries wsX1_entries ⟨0, 0, 0, 0⟩ [.ref (a)] G sz (rt (some (.int (nI (2 ^ dep)))) G sz) := by
  refine Ct.of (cc := cX1_entries) (maxL := 1) (ret := (some .int)) (L := [some (.ref (a))]) (by decide +kernel) rfl (by simp [Value.category]) (by simp) rfl ?_
  intro p e s m args below meth c k hM
  refine V.iconst (v := nI 1) k dX1_entries_0 (by decide) ?_
  refine V.aload_n k dX1_entries_1 rfl ?_
  refine V.getf (v := .int (nI (dep))) k dX1_entries_2 fl_X1_entries_29 (hS.1) rfl ?_
  refine V.ishl (v := (nI (2 ^ (dep)))) k dX1_entries_5 (shl1 (by omega)) ?_
  exact V.iret k hM dX1_entries_6 (Nat.le_of_ble_eq_true rfl) (Nat.le_of_ble_eq_true rfl) (rt_ok)
theorem fl_X1_bucketOf_11 : FL wsX1_bucketOf RX1 11 1 0 := ⟨RX1, TX1, 5, rfl, (fun _ h => List.mem_cons_of_mem _ (List.mem_append_right _ h)), by decide, List.mem_of_getElem? (i := 1) rfl, rfl⟩
set_option maxHeartbeats 4000000 in
set_option maxRecDepth 100000 in
theorem c_X1_bucketOf (l : Launch) (w : Wd) (a sz : Nat) (G : Pic) (dep nb nk n g : Nat) (R DB : Nat → Nat) (hS : StAt G a dep nb nk n g R DB) (hd : dep ≤ 8) (hn : n ≤ 256) (hdn : 2 ^ dep ≤ n) (r0 : Int32) : Ct l w yX1_bucketOf wsX1_bucketOf ⟨1, 0, 0, 20⟩ [.ref (a), .int (r0)] G sz (rt (some (.ref (R (tn r0 % 2 ^ dep)))) G sz) := by
  refine Ct.of (cc := cX1_bucketOf) (maxL := 2) (ret := (some (.object "ExtendStore$Bucket"))) (L := [some (.ref (a)), some (.int (r0))]) (by decide +kernel) rfl (by simp [Value.category]) (by simp) rfl ?_
  intro p e s m args below meth c k hM
  have hlt : tn r0 % 2 ^ dep < n := Nat.lt_of_lt_of_le (Nat.mod_lt _ (p2pos dep)) hdn
  refine V.aload_n k dX1_bucketOf_0 rfl ?_
  refine V.getf (v := .ref (a + 1)) k dX1_bucketOf_1 fl_X1_bucketOf_11 (hS.1) rfl ?_
  refine V.iload_n k dX1_bucketOf_4 rfl ?_
  refine V.aload_n k dX1_bucketOf_5 rfl ?_
  refine V.cV (As := []) (ci := 1) (st1 := [.int (nI (2 ^ dep)), .int (r0), .ref (a + 1)]) k dX1_bucketOf_6 (c_X1_entries l w a sz G dep nb nk n g R DB hS hd hn hdn) gX1_bucketOf_X1_entries rfl rfl (hS.1) ⟨rfl, hd_X1_entries⟩ ⟨⟨Nat.le_of_ble_eq_true rfl, Nat.le_of_ble_eq_true rfl⟩, Nat.le_of_ble_eq_true rfl, Nat.le_of_ble_eq_true rfl⟩ rfl rfl rfl (Nat.le_of_ble_eq_true rfl) rfl ?_
  refine V.iconst (v := nI 1) k dX1_bucketOf_9 (by decide) ?_
  refine V.isub (v := (nI (2 ^ dep - 1))) k dX1_bucketOf_10 (nI_sub1) ?_
  refine V.iand (v := (nI (tn r0 % 2 ^ dep))) k dX1_bucketOf_11 (andm r0 (by omega)) ?_
  refine V.bald (b := R (tn r0 % 2 ^ dep)) k dX1_bucketOf_12 (hS.2.1) rfl (by omega) (by omega) (rfl) ?_
  exact V.aret k hM dX1_bucketOf_13 (Nat.le_of_ble_eq_true rfl) (Nat.le_of_ble_eq_true rfl) (rt_ok)
theorem fl_X1_makeEmpty_29 : FL wsX1_makeEmpty RX1 29 1 2 := ⟨RX1, TX1, 5, rfl, (fun _ h => List.mem_cons_of_mem _ (List.mem_append_right _ h)), by decide, List.mem_of_getElem? (i := 1) rfl, rfl⟩
theorem fl_X1_makeEmpty_25 : FL wsX1_makeEmpty RX1 25 1 3 := ⟨RX1, TX1, 5, rfl, (fun _ h => List.mem_cons_of_mem _ (List.mem_append_right _ h)), by decide, List.mem_of_getElem? (i := 2) rfl, rfl⟩
theorem fl_X1_makeEmpty_36 : FL wsX1_makeEmpty RX1 36 1 4 := ⟨RX1, TX1, 5, rfl, (fun _ h => List.mem_cons_of_mem _ (List.mem_append_right _ h)), by decide, List.mem_of_getElem? (i := 3) rfl, rfl⟩
theorem fl_X1_makeEmpty_11 : FL wsX1_makeEmpty RX1 11 1 0 := ⟨RX1, TX1, 5, rfl, (fun _ h => List.mem_cons_of_mem _ (List.mem_append_right _ h)), by decide, List.mem_of_getElem? (i := 4) rfl, rfl⟩
set_option maxHeartbeats 4000000 in
set_option maxRecDepth 100000 in
theorem c_X1_makeEmpty (l : Launch) (w : Wd) (a sz : Nat) (G : Pic) (dep nb nk n g : Nat) (R DB : Nat → Nat) (hS : StAt G a dep nb nk n g R DB) (hd : dep ≤ 8) (hn : n ≤ 256) (hdn : 2 ^ dep ≤ n) (c0 : Nat) (vs : List Value) (hc : G c0 = some (gO 0 vs)) (hcd : c0 < a ∨ a + 2 < c0) : Ct l w yX1_makeEmpty wsX1_makeEmpty ⟨0, 0, 0, 0⟩ [.ref (a), .ref (c0)] G sz (fun v G' sz' => v = none ∧ sz' = sz ∧ StAt G' a 0 1 0 n g (va_up R 0 c0) DB ∧ Sm G G' a) := by
  refine Ct.of (cc := cX1_makeEmpty) (maxL := 2) (ret := none) (L := [some (.ref (a)), some (.ref (c0))]) (by decide +kernel) rfl (by simp [Value.category]) (by simp) rfl ?_
  intro p e s m args below meth c k hM
  have h0 := p2pos dep
  refine V.aload_n k dX1_makeEmpty_0 rfl ?_
  refine V.iconst (v := nI 0) k dX1_makeEmpty_1 (by decide) ?_
  refine V.putf (fs' := [.ref (a + 1), .ref (a + 2), .int (nI (0)), .int (nI (nb)), .int (nI (nk))]) k dX1_makeEmpty_2 fl_X1_makeEmpty_29 ft_X1_2 (hS.1) (by first | rfl | decide) rfl (Nat.le_of_ble_eq_true rfl) rfl ?_
  refine V.aload_n k dX1_makeEmpty_5 rfl ?_
  refine V.iconst (v := nI 1) k dX1_makeEmpty_6 (by decide) ?_
  refine V.putf (fs' := [.ref (a + 1), .ref (a + 2), .int (nI (0)), .int (nI (1)), .int (nI (nk))]) k dX1_makeEmpty_7 fl_X1_makeEmpty_25 ft_X1_3 (gup_self _ _ _) (by first | rfl | decide) rfl (Nat.le_of_ble_eq_true rfl) rfl ?_
  refine V.aload_n k dX1_makeEmpty_10 rfl ?_
  refine V.iconst (v := nI 0) k dX1_makeEmpty_11 (by decide) ?_
  refine V.putf (fs' := [.ref (a + 1), .ref (a + 2), .int (nI (0)), .int (nI (1)), .int (nI (0))]) k dX1_makeEmpty_12 fl_X1_makeEmpty_36 ft_X1_4 (gup_self _ _ _) (by first | rfl | decide) rfl (Nat.le_of_ble_eq_true rfl) rfl ?_
  refine V.aload_n k dX1_makeEmpty_15 rfl ?_
  refine V.getf (v := .ref (a + 1)) k dX1_makeEmpty_16 fl_X1_makeEmpty_11 (gup_self _ _ _) rfl ?_
  refine V.iconst (v := nI 0) k dX1_makeEmpty_19 (by decide) ?_
  refine V.aload_n k dX1_makeEmpty_20 rfl ?_
  refine V.bast (f' := fun j => some ((va_up (R) (0) (c0)) j)) k dX1_makeEmpty_21 ((gup_ne _ _ (by omega)).trans ((gup_ne _ _ (by omega)).trans ((gup_ne _ _ (by omega)).trans (hS.2.1)))) ((gup_ne _ _ (by omega)).trans ((gup_ne _ _ (by omega)).trans ((gup_ne _ _ (by omega)).trans (hc)))) rfl (by omega) (by omega) (up_some _ _ _) ?_
  exact V.vret k hM dX1_makeEmpty_22 (Nat.le_of_ble_eq_true rfl) (Nat.le_of_ble_eq_true rfl) (⟨rfl, rfl, ⟨(gup_ne _ _ (by omega)).trans (gup_self _ _ _), gup_self _ _ _, (gup_ne _ _ (by omega)).trans ((gup_ne _ _ (by omega)).trans ((gup_ne _ _ (by omega)).trans ((gup_ne _ _ (by omega)).trans (hS.2.2))))⟩, (((Sm.up _ (by omega)).tr (Sm.up _ (by omega))).tr (Sm.up _ (by omega))).tr (Sm.up _ (by omega))⟩)
theorem fl_X1_copyFrom_29 : FL wsX1_copyFrom RX1 29 1 2 := ⟨RX1, TX1, 5, rfl, (fun _ h => List.mem_cons_of_mem _ (List.mem_append_right _ h)), by decide, List.mem_of_getElem? (i := 1) rfl, rfl⟩
theorem fl_X1_copyFrom_25 : FL wsX1_copyFrom RX1 25 1 3 := ⟨RX1, TX1, 5, rfl, (fun _ h => List.mem_cons_of_mem _ (List.mem_append_right _ h)), by decide, List.mem_of_getElem? (i := 2) rfl, rfl⟩
theorem fl_X1_copyFrom_36 : FL wsX1_copyFrom RX1 36 1 4 := ⟨RX1, TX1, 5, rfl, (fun _ h => List.mem_cons_of_mem _ (List.mem_append_right _ h)), by decide, List.mem_of_getElem? (i := 3) rfl, rfl⟩
theorem fl_X1_copyFrom_11 : FL wsX1_copyFrom RX1 11 1 0 := ⟨RX1, TX1, 5, rfl, (fun _ h => List.mem_cons_of_mem _ (List.mem_append_right _ h)), by decide, List.mem_of_getElem? (i := 4) rfl, rfl⟩
theorem fl_X1_copyFrom_21 : FL wsX1_copyFrom RX1 21 1 1 := ⟨RX1, TX1, 5, rfl, (fun _ h => List.mem_cons_of_mem _ (List.mem_append_right _ h)), by decide, List.mem_of_getElem? (i := 5) rfl, rfl⟩
set_option maxHeartbeats 4000000 in
set_option maxRecDepth 100000 in
theorem c_X1_copyFrom (l : Launch) (w : Wd) (a sz : Nat) (G : Pic) (dep nb nk n g : Nat) (R DB : Nat → Nat) (hS : StAt G a dep nb nk n g R DB) (hd : dep ≤ 8) (hn : n ≤ 256) (hdn : 2 ^ dep ≤ n) (a2 dep2 nb2 nk2 : Nat) (R2 DB2 : Nat → Nat) (hS2 : StAt G a2 dep2 nb2 nk2 n g R2 DB2) (hda : a + 2 < a2 ∨ a2 + 2 < a) (hd2 : dep2 ≤ 8) (hdn2 : 2 ^ dep2 ≤ n) (hg : g ≤ 256) (hR2 : ∀ j, j < 2 ^ dep2 → (∃ vs, G (R2 j) = some (gO 0 vs)) ∧ (R2 j < a ∨ a + 2 < R2 j)) : Ct l w yX1_copyFrom wsX1_copyFrom ⟨1, 0, 0, 20⟩ [.ref (a), .ref (a2)] G sz (fun v G' sz' => v = none ∧ sz' = sz ∧ StAt G' a dep2 nb2 nk2 n g (cpT R2 R (2 ^ dep2)) (cpT DB2 DB g) ∧ Sm G G' a) := by
  refine Ct.of (cc := cX1_copyFrom) (maxL := 3) (ret := none) (L := [some (.ref (a)), some (.ref (a2)), none]) (by decide +kernel) rfl (by simp [Value.category]) (by simp) rfl ?_
  intro p e s m args below meth c k hM
  have lp2 : ∀ (nq i : Nat) (G2 : Pic), i ≤ g → g - i < nq → (StAt G2 a dep2 nb2 nk2 n g (cpT R2 R (2 ^ dep2)) (cpT DB2 DB i) ∧ Sm G G2 a) → V p l e ⟨1, 0, 0, 20⟩ s m args below meth c w G2 sz 0 0 (mQ w below args s ⟨1, 0, 0, 20⟩ (fun v G' sz' => v = none ∧ sz' = sz ∧ StAt G' a dep2 nb2 nk2 n g (cpT R2 R (2 ^ dep2)) (cpT DB2 DB g) ∧ Sm G G' a)) 54 [some (.ref (a)), some (.ref (a2)), some (.int (nI (i)))] [] := by
    intro nq
    induction nq with
    | zero => intro i G2 h1 h2 hI; omega
    | succ nq ih =>
      intro i G2 h1 h2 hI
      obtain ⟨hI, hs⟩ := hI
      have hI2 := hS2.sm hs (by omega)
      refine V.iload_n k dX1_copyFrom_54 rfl ?_
      refine V.aload_n k dX1_copyFrom_55 rfl ?_
      refine V.getf (v := .ref (a + 2)) k dX1_copyFrom_56 fl_X1_copyFrom_21 (hI.1) rfl ?_
      refine V.alenI k dX1_copyFrom_59 (hI.2.2) ?_
      refine V.n_ge (tgt := 81) k dX1_copyFrom_60 (by decide) (by omega) (by omega) (fun hb => ?_) (fun hb => ?_)
      · have hi : i = g := by omega
        subst hi
        exact V.vret k hM dX1_copyFrom_81 (Nat.le_of_ble_eq_true rfl) (Nat.le_of_ble_eq_true rfl) (⟨rfl, rfl, hI, hs⟩)
      · refine V.aload_n k dX1_copyFrom_63 rfl ?_
        refine V.getf (v := .ref (a + 2)) k dX1_copyFrom_64 fl_X1_copyFrom_21 (hI.1) rfl ?_
        refine V.iload_n k dX1_copyFrom_67 rfl ?_
        refine V.aload_n k dX1_copyFrom_68 rfl ?_
        refine V.getf (v := .ref (a2 + 2)) k dX1_copyFrom_69 fl_X1_copyFrom_21 (hI2.1) rfl ?_
        refine V.iload_n k dX1_copyFrom_72 rfl ?_
        refine V.iald (v := (nI (DB2 (i)))) k dX1_copyFrom_73 (hI2.2.2) rfl (by omega) (by omega) (rfl) ?_
        refine V.iast (f' := fun j => nI ((va_up (cpT DB2 DB i) (i) (DB2 (i))) j)) k dX1_copyFrom_74 (hI.2.2) rfl (by omega) (by omega) (upd_nI _ _ _) ?_
        refine V.iinc (x := (nI (i))) (v := (nI (i + 1))) (L' := [some (.ref (a)), some (.ref (a2)), some (.int (nI (i + 1)))]) k dX1_copyFrom_75 rfl (nI_inc1 _) rfl ?_
        refine V.goto (tgt := 54) k dX1_copyFrom_78 (by decide) ?_
        refine ih (i + 1) _ (by omega) (by omega) ⟨⟨(gup_ne _ _ (by omega)).trans (hI.1), (gup_ne _ _ (by omega)).trans (hI.2.1), ?_⟩, hs.tr (Sm.up _ (by omega))⟩
        rw [← cpT_s]; exact gup_self _ _ _
  have lp1 : ∀ (nq i : Nat) (G2 : Pic), i ≤ 2 ^ dep2 → 2 ^ dep2 - i < nq → (StAt G2 a dep2 nb2 nk2 n g (cpT R2 R i) DB ∧ Sm G G2 a) → V p l e ⟨1, 0, 0, 20⟩ s m args below meth c w G2 sz 0 0 (mQ w below args s ⟨1, 0, 0, 20⟩ (fun v G' sz' => v = none ∧ sz' = sz ∧ StAt G' a dep2 nb2 nk2 n g (cpT R2 R (2 ^ dep2)) (cpT DB2 DB g) ∧ Sm G G' a)) 26 [some (.ref (a)), some (.ref (a2)), some (.int (nI (i)))] [] := by
    intro nq
    induction nq with
    | zero => intro i G2 h1 h2 hI; omega
    | succ nq ih =>
      intro i G2 h1 h2 hI
      obtain ⟨hI, hs⟩ := hI
      have hI2 := hS2.sm hs (by omega)
      refine V.iload_n k dX1_copyFrom_26 rfl ?_
      refine V.aload_n k dX1_copyFrom_27 rfl ?_
      refine V.cV (As := []) (ci := 1) (st1 := [.int (nI (2 ^ dep2)), .int (nI (i))]) k dX1_copyFrom_28 (c_X1_entries l w a sz G2 dep2 nb2 nk2 n g _ _ hI hd2 hn hdn2) gX1_copyFrom_X1_entries rfl rfl (hI.1) ⟨rfl, hd_X1_entries⟩ ⟨⟨Nat.le_of_ble_eq_true rfl, Nat.le_of_ble_eq_true rfl⟩, Nat.le_of_ble_eq_true rfl, Nat.le_of_ble_eq_true rfl⟩ rfl rfl rfl (Nat.le_of_ble_eq_true rfl) rfl ?_
      refine V.n_ge (tgt := 52) k dX1_copyFrom_31 (by decide) (by omega) (by omega) (fun hb => ?_) (fun hb => ?_)
      · have hi : i = 2 ^ dep2 := by omega
        subst hi
        refine V.iconst (v := nI 0) k dX1_copyFrom_52 (by decide) ?_
        refine V.istore_n (L' := [some (.ref (a)), some (.ref (a2)), some (.int (nI (0)))]) k dX1_copyFrom_53 (Nat.le_of_ble_eq_true rfl) rfl ?_
        exact lp2 (g + 1) 0 G2 (by omega) (by omega) ⟨by rw [cpT_0]; exact hI, hs⟩
      · obtain ⟨⟨vs, hv⟩, hRo⟩ := hR2 i hb
        have hv2 := (hs (R2 i) hRo).trans hv
        refine V.aload_n k dX1_copyFrom_34 rfl ?_
        refine V.getf (v := .ref (a + 1)) k dX1_copyFrom_35 fl_X1_copyFrom_11 (hI.1) rfl ?_
        refine V.iload_n k dX1_copyFrom_38 rfl ?_
        refine V.aload_n k dX1_copyFrom_39 rfl ?_
        refine V.getf (v := .ref (a2 + 1)) k dX1_copyFrom_40 fl_X1_copyFrom_11 (hI2.1) rfl ?_
        refine V.iload_n k dX1_copyFrom_43 rfl ?_
        refine V.bald (b := R2 (i)) k dX1_copyFrom_44 (hI2.2.1) rfl (by omega) (by omega) (rfl) ?_
        refine V.bast (f' := fun j => some ((va_up (cpT R2 R i) (i) (R2 (i))) j)) k dX1_copyFrom_45 (hI.2.1) (hv2) rfl (by omega) (by omega) (up_some _ _ _) ?_
        refine V.iinc (x := (nI (i))) (v := (nI (i + 1))) (L' := [some (.ref (a)), some (.ref (a2)), some (.int (nI (i + 1)))]) k dX1_copyFrom_46 rfl (nI_inc1 _) rfl ?_
        refine V.goto (tgt := 26) k dX1_copyFrom_49 (by decide) ?_
        refine ih (i + 1) _ (by omega) (by omega) ⟨⟨(gup_ne _ _ (by omega)).trans (hI.1), ?_, (gup_ne _ _ (by omega)).trans (hI.2.2)⟩, hs.tr (Sm.up _ (by omega))⟩
        rw [← cpT_s]; exact gup_self _ _ _
  have hp2 := p2le hd2
  have hpp2 := p2pos dep2
  refine V.aload_n k dX1_copyFrom_0 rfl ?_
  refine V.aload_n k dX1_copyFrom_1 rfl ?_
  refine V.getf (v := .int (nI (dep2))) k dX1_copyFrom_2 fl_X1_copyFrom_29 (hS2.1) rfl ?_
  refine V.putf (fs' := [.ref (a + 1), .ref (a + 2), .int (nI (dep2)), .int (nI (nb)), .int (nI (nk))]) k dX1_copyFrom_5 fl_X1_copyFrom_29 ft_X1_2 (hS.1) (by first | rfl | decide) rfl (Nat.le_of_ble_eq_true rfl) rfl ?_
  refine V.aload_n k dX1_copyFrom_8 rfl ?_
  refine V.aload_n k dX1_copyFrom_9 rfl ?_
  refine V.getf (v := .int (nI (nb2))) k dX1_copyFrom_10 fl_X1_copyFrom_25 ((gup_ne _ _ (by omega)).trans (hS2.1)) rfl ?_
  refine V.putf (fs' := [.ref (a + 1), .ref (a + 2), .int (nI (dep2)), .int (nI (nb2)), .int (nI (nk))]) k dX1_copyFrom_13 fl_X1_copyFrom_25 ft_X1_3 (gup_self _ _ _) (by first | rfl | decide) rfl (Nat.le_of_ble_eq_true rfl) rfl ?_
  refine V.aload_n k dX1_copyFrom_16 rfl ?_
  refine V.aload_n k dX1_copyFrom_17 rfl ?_
  refine V.getf (v := .int (nI (nk2))) k dX1_copyFrom_18 fl_X1_copyFrom_36 ((gup_ne _ _ (by omega)).trans ((gup_ne _ _ (by omega)).trans (hS2.1))) rfl ?_
  refine V.putf (fs' := [.ref (a + 1), .ref (a + 2), .int (nI (dep2)), .int (nI (nb2)), .int (nI (nk2))]) k dX1_copyFrom_21 fl_X1_copyFrom_36 ft_X1_4 (gup_self _ _ _) (by first | rfl | decide) rfl (Nat.le_of_ble_eq_true rfl) rfl ?_
  refine V.iconst (v := nI 0) k dX1_copyFrom_24 (by decide) ?_
  refine V.istore_n (L' := [some (.ref (a)), some (.ref (a2)), some (.int (nI (0)))]) k dX1_copyFrom_25 (Nat.le_of_ble_eq_true rfl) rfl ?_
  exact lp1 (2 ^ dep2 + 1) 0 _ (by omega) (by omega) ⟨⟨gup_self _ _ _, by rw [cpT_0]; exact (gup_ne _ _ (by omega)).trans ((gup_ne _ _ (by omega)).trans ((gup_ne _ _ (by omega)).trans (hS.2.1))), (gup_ne _ _ (by omega)).trans ((gup_ne _ _ (by omega)).trans ((gup_ne _ _ (by omega)).trans (hS.2.2)))⟩, ((Sm.up _ (by omega)).tr (Sm.up _ (by omega))).tr (Sm.up _ (by omega))⟩
theorem fl_X1_enter_39 : FL wsX1_enter RX1 39 0 0 := ⟨RX0, TX0, 5, rfl, (fun _ h => List.mem_cons_of_mem _ (List.mem_append_left _ (List.mem_append_right _ h))), by decide, List.mem_of_getElem? (i := 1) rfl, rfl⟩
theorem fl_X1_enter_11 : FL wsX1_enter RX1 11 1 0 := ⟨RX1, TX1, 5, rfl, (fun _ h => List.mem_cons_of_mem _ (List.mem_append_right _ h)), by decide, List.mem_of_getElem? (i := 2) rfl, rfl⟩
set_option maxHeartbeats 4000000 in
set_option maxRecDepth 100000 in
theorem c_X1_enter (l : Launch) (w : Wd) (a sz : Nat) (G : Pic) (dep nb nk n g : Nat) (R DB : Nat → Nat) (hS : StAt G a dep nb nk n g R DB) (hd : dep ≤ 8) (hn : n ≤ 256) (hdn : 2 ^ dep ≤ n) (bk loc cnt blk : Nat) (K U : Nat → Int32) (r0 : Int32) (hB : BkAt G bk loc cnt blk K U) (hbd : bk + 2 < a ∨ a + 2 < bk) (hloc : loc ≤ 8) : Ct l w yX1_enter wsX1_enter ⟨1, 0, 0, 20⟩ [.ref (a), .ref (bk), .int (r0)] G sz (fun v G' sz' => v = none ∧ sz' = sz ∧ StAt G' a dep nb nk n g (entR R (2 ^ dep) bk loc (tn r0)) DB ∧ Sm G G' a) := by
  refine Ct.of (cc := cX1_enter) (maxL := 5) (ret := none) (L := [some (.ref (a)), some (.ref (bk)), some (.int (r0)), none, none]) (by decide +kernel) rfl (by simp [Value.category]) (by simp) rfl ?_
  intro p e s m args below meth c k hM
  have hp := p2le hd
  have hpp := p2pos dep
  have hq := p2le hloc
  have hq0 := p2pos loc
  have hr1 : tn r0 % 2 ^ loc < 2 ^ loc := Nat.mod_lt _ hq0
  have lp : ∀ (n1 i : Nat) (G2 : Pic), i < 2 ^ dep + 2 ^ loc → 2 ^ dep + 2 ^ loc - i < n1 → (i % 2 ^ loc = tn r0 % 2 ^ loc ∧ StAt G2 a dep nb nk n g (entR R i bk loc (tn r0)) DB ∧ Sm G G2 a) → V p l e ⟨1, 0, 0, 20⟩ s m args below meth c w G2 sz 0 0 (mQ w below args s ⟨1, 0, 0, 20⟩ (fun v G' sz' => v = none ∧ sz' = sz ∧ StAt G' a dep nb nk n g (entR R (2 ^ dep) bk loc (tn r0)) DB ∧ Sm G G' a)) 14 [some (.ref (a)), some (.ref (bk)), some (.int (r0)), some (.int (nI (2 ^ loc))), some (.int (nI (i)))] [] := by
    intro n1
    induction n1 with
    | zero => intro i G2 h1 h2 hI; omega
    | succ n1 ih =>
      intro i G2 h1 h2 hI
      obtain ⟨him, hI, hs⟩ := hI
      have hBk := hB.sm hs hbd
      refine V.iload k dX1_enter_14 rfl ?_
      refine V.aload_n k dX1_enter_16 rfl ?_
      refine V.cV (As := []) (ci := 1) (st1 := [.int (nI (2 ^ dep)), .int (nI (i))]) k dX1_enter_17 (c_X1_entries l w a sz G2 dep nb nk n g _ _ hI hd hn hdn) gX1_enter_X1_entries rfl rfl (hI.1) ⟨rfl, hd_X1_entries⟩ ⟨⟨Nat.le_of_ble_eq_true rfl, Nat.le_of_ble_eq_true rfl⟩, Nat.le_of_ble_eq_true rfl, Nat.le_of_ble_eq_true rfl⟩ rfl rfl rfl (Nat.le_of_ble_eq_true rfl) rfl ?_
      refine V.n_ge (tgt := 40) k dX1_enter_20 (by decide) (by omega) (by omega) (fun hb => ?_) (fun hb => ?_)
      · exact V.vret k hM dX1_enter_40 (Nat.le_of_ble_eq_true rfl) (Nat.le_of_ble_eq_true rfl) (⟨rfl, rfl, by rw [← entR_end R him hb h1]; exact hI, hs⟩)
      · refine V.aload_n k dX1_enter_23 rfl ?_
        refine V.getf (v := .ref (a + 1)) k dX1_enter_24 fl_X1_enter_11 (hI.1) rfl ?_
        refine V.iload k dX1_enter_27 rfl ?_
        refine V.aload_n k dX1_enter_29 rfl ?_
        refine V.bast (f' := fun j => some ((va_up (entR R i bk loc (tn r0)) (i) (bk)) j)) k dX1_enter_30 (hI.2.1) (hBk.1) rfl (by omega) (by omega) (up_some _ _ _) ?_
        refine V.iload k dX1_enter_31 rfl ?_
        refine V.iload_n k dX1_enter_33 rfl ?_
        refine V.iadd (v := (nI (i + (2 ^ loc)))) k dX1_enter_34 (nI_add _ _) ?_
        refine V.istore (L' := [some (.ref (a)), some (.ref (bk)), some (.int (r0)), some (.int (nI (2 ^ loc))), some (.int (nI (i + (2 ^ loc))))]) k dX1_enter_35 (Nat.le_of_ble_eq_true rfl) rfl ?_
        refine V.goto (tgt := 14) k dX1_enter_37 (by decide) ?_
        refine ih (i + 2 ^ loc) _ (by omega) (by omega) ⟨by rw [Nat.add_mod_right]; exact him, ⟨(gup_ne _ _ (by omega)).trans (hI.1), ?_, (gup_ne _ _ (by omega)).trans (hI.2.2)⟩, hs.tr (Sm.up _ (by omega))⟩
        rw [← entR_s R him]; exact gup_self _ _ _
  refine V.iconst (v := nI 1) k dX1_enter_0 (by decide) ?_
  refine V.aload_n k dX1_enter_1 rfl ?_
  refine V.getf (v := .int (nI (loc))) k dX1_enter_2 fl_X1_enter_39 (hB.1) rfl ?_
  refine V.ishl (v := (nI (2 ^ (loc)))) k dX1_enter_5 (shl1 (by omega)) ?_
  refine V.istore_n (L' := [some (.ref (a)), some (.ref (bk)), some (.int (r0)), some (.int (nI (2 ^ (loc)))), none]) k dX1_enter_6 (Nat.le_of_ble_eq_true rfl) rfl ?_
  refine V.iload_n k dX1_enter_7 rfl ?_
  refine V.iload_n k dX1_enter_8 rfl ?_
  refine V.iconst (v := nI 1) k dX1_enter_9 (by decide) ?_
  refine V.isub (v := (nI (2 ^ (loc) - 1))) k dX1_enter_10 (nI_sub1) ?_
  refine V.iand (v := (nI (tn r0 % 2 ^ loc))) k dX1_enter_11 (andm r0 (by omega)) ?_
  refine V.istore (L' := [some (.ref (a)), some (.ref (bk)), some (.int (r0)), some (.int (nI (2 ^ (loc)))), some (.int (nI (tn r0 % 2 ^ loc)))]) k dX1_enter_12 (Nat.le_of_ble_eq_true rfl) rfl ?_
  exact lp (2 ^ dep + 2 ^ loc + 1) (tn r0 % 2 ^ loc) G (by omega) (by omega) ⟨Nat.mod_mod _ _, by rw [entR_0]; exact hS, Sm.rf G a⟩
theorem fl_X1_doubleDirectory_11 : FL wsX1_doubleDirectory RX1 11 1 0 := ⟨RX1, TX1, 5, rfl, (fun _ h => List.mem_cons_of_mem _ (List.mem_append_right _ h)), by decide, List.mem_of_getElem? (i := 1) rfl, rfl⟩
theorem fl_X1_doubleDirectory_29 : FL wsX1_doubleDirectory RX1 29 1 2 := ⟨RX1, TX1, 5, rfl, (fun _ h => List.mem_cons_of_mem _ (List.mem_append_right _ h)), by decide, List.mem_of_getElem? (i := 2) rfl, rfl⟩
set_option maxHeartbeats 4000000 in
set_option maxRecDepth 100000 in
theorem c_X1_doubleDirectory (l : Launch) (w : Wd) (a sz : Nat) (G : Pic) (dep nb nk n g : Nat) (R DB : Nat → Nat) (hS : StAt G a dep nb nk n g R DB) (hd : dep ≤ 8) (hn : n ≤ 256) (hdn : 2 ^ dep ≤ n) (hdn2 : 2 ^ dep + 2 ^ dep ≤ n) (hR : ∀ j, j < 2 ^ dep → (∃ vs, G (R j) = some (gO 0 vs)) ∧ (R j < a ∨ a + 2 < R j)) : Ct l w yX1_doubleDirectory wsX1_doubleDirectory ⟨1, 0, 0, 20⟩ [.ref (a)] G sz (fun v G' sz' => v = none ∧ sz' = sz ∧ StAt G' a (dep + 1) nb nk n g (dblR R (2 ^ dep) (2 ^ dep)) DB ∧ Sm G G' a) := by
  refine Ct.of (cc := cX1_doubleDirectory) (maxL := 3) (ret := none) (L := [some (.ref (a)), none, none]) (by decide +kernel) rfl (by simp [Value.category]) (by simp) rfl ?_
  intro p e s m args below meth c k hM
  have hp := p2le hd
  have hpp := p2pos dep
  have lp : ∀ (nq i : Nat) (G2 : Pic), i ≤ 2 ^ dep → 2 ^ dep - i < nq → (StAt G2 a dep nb nk n g (dblR R (2 ^ dep) i) DB ∧ Sm G G2 a) → V p l e ⟨1, 0, 0, 20⟩ s m args below meth c w G2 sz 0 0 (mQ w below args s ⟨1, 0, 0, 20⟩ (fun v G' sz' => v = none ∧ sz' = sz ∧ StAt G' a (dep + 1) nb nk n g (dblR R (2 ^ dep) (2 ^ dep)) DB ∧ Sm G G' a)) 7 [some (.ref (a)), some (.int (nI (2 ^ dep))), some (.int (nI (i)))] [] := by
    intro nq
    induction nq with
    | zero => intro i G2 h1 h2 hI; omega
    | succ nq ih =>
      intro i G2 h1 h2 hI
      obtain ⟨hI, hs⟩ := hI
      refine V.iload_n k dX1_doubleDirectory_7 rfl ?_
      refine V.iload_n k dX1_doubleDirectory_8 rfl ?_
      refine V.n_ge (tgt := 32) k dX1_doubleDirectory_9 (by decide) (by omega) (by omega) (fun hb => ?_) (fun hb => ?_)
      · have hi : i = 2 ^ dep := by omega
        subst hi
        refine V.aload_n k dX1_doubleDirectory_32 rfl ?_
        refine V.dup k dX1_doubleDirectory_33 rfl ?_
        refine V.getf (v := .int (nI (dep))) k dX1_doubleDirectory_34 fl_X1_doubleDirectory_29 (hI.1) rfl ?_
        refine V.iconst (v := nI 1) k dX1_doubleDirectory_37 (by decide) ?_
        refine V.iadd (v := (nI (dep + 1))) k dX1_doubleDirectory_38 (nI_add _ _) ?_
        refine V.putf (fs' := [.ref (a + 1), .ref (a + 2), .int (nI (dep + 1)), .int (nI (nb)), .int (nI (nk))]) k dX1_doubleDirectory_39 fl_X1_doubleDirectory_29 ft_X1_2 (hI.1) (by first | rfl | decide) rfl (Nat.le_of_ble_eq_true rfl) rfl ?_
        exact V.vret k hM dX1_doubleDirectory_42 (Nat.le_of_ble_eq_true rfl) (Nat.le_of_ble_eq_true rfl) (⟨rfl, rfl, ⟨gup_self _ _ _, (gup_ne _ _ (by omega)).trans (hI.2.1), (gup_ne _ _ (by omega)).trans (hI.2.2)⟩, hs.tr (Sm.up _ (by omega))⟩)
      · obtain ⟨⟨vs, hv⟩, hRo⟩ := hR i hb
        have hv2 := (hs (R i) hRo).trans hv
        refine V.aload_n k dX1_doubleDirectory_12 rfl ?_
        refine V.getf (v := .ref (a + 1)) k dX1_doubleDirectory_13 fl_X1_doubleDirectory_11 (hI.1) rfl ?_
        refine V.iload_n k dX1_doubleDirectory_16 rfl ?_
        refine V.iload_n k dX1_doubleDirectory_17 rfl ?_
        refine V.iadd (v := (nI ((2 ^ dep) + i))) k dX1_doubleDirectory_18 (nI_add _ _) ?_
        refine V.aload_n k dX1_doubleDirectory_19 rfl ?_
        refine V.getf (v := .ref (a + 1)) k dX1_doubleDirectory_20 fl_X1_doubleDirectory_11 (hI.1) rfl ?_
        refine V.iload_n k dX1_doubleDirectory_23 rfl ?_
        refine V.bald (b := R i) k dX1_doubleDirectory_24 (hI.2.1) rfl (by omega) (by omega) (congrArg some (dblR_lo R hb)) ?_
        refine V.bast (f' := fun j => some ((va_up (dblR R (2 ^ dep) i) ((2 ^ dep) + i) (R i)) j)) k dX1_doubleDirectory_25 (hI.2.1) (hv2) rfl (by omega) (by omega) (up_some _ _ _) ?_
        refine V.iinc (x := (nI (i))) (v := (nI (i + 1))) (L' := [some (.ref (a)), some (.int (nI (2 ^ dep))), some (.int (nI (i + 1)))]) k dX1_doubleDirectory_26 rfl (nI_inc1 _) rfl ?_
        refine V.goto (tgt := 7) k dX1_doubleDirectory_29 (by decide) ?_
        refine ih (i + 1) _ (by omega) (by omega) ⟨⟨(gup_ne _ _ (by omega)).trans (hI.1), ?_, (gup_ne _ _ (by omega)).trans (hI.2.2)⟩, hs.tr (Sm.up _ (by omega))⟩
        rw [← dblR_s R hb]; exact gup_self _ _ _
  refine V.aload_n k dX1_doubleDirectory_0 rfl ?_
  refine V.cV (As := []) (ci := 1) (st1 := [.int (nI (2 ^ dep))]) k dX1_doubleDirectory_1 (c_X1_entries l w a sz G dep nb nk n g R DB hS hd hn hdn) gX1_doubleDirectory_X1_entries rfl rfl (hS.1) ⟨rfl, hd_X1_entries⟩ ⟨⟨Nat.le_of_ble_eq_true rfl, Nat.le_of_ble_eq_true rfl⟩, Nat.le_of_ble_eq_true rfl, Nat.le_of_ble_eq_true rfl⟩ rfl rfl rfl (Nat.le_of_ble_eq_true rfl) rfl ?_
  refine V.istore_n (L' := [some (.ref (a)), some (.int (nI (2 ^ dep))), none]) k dX1_doubleDirectory_4 (Nat.le_of_ble_eq_true rfl) rfl ?_
  refine V.iconst (v := nI 0) k dX1_doubleDirectory_5 (by decide) ?_
  refine V.istore_n (L' := [some (.ref (a)), some (.int (nI (2 ^ dep))), some (.int (nI (0)))]) k dX1_doubleDirectory_6 (Nat.le_of_ble_eq_true rfl) rfl ?_
  exact lp (2 ^ dep + 1) 0 G (by omega) (by omega) ⟨by rw [dblR_0]; exact hS, Sm.rf G a⟩
theorem fl_X1_hasBucketOfFullDepth_11 : FL wsX1_hasBucketOfFullDepth RX1 11 1 0 := ⟨RX1, TX1, 5, rfl, (fun _ h => List.mem_cons_of_mem _ (List.mem_append_left _ (List.mem_append_right _ h))), by decide, List.mem_of_getElem? (i := 1) rfl, rfl⟩
theorem fl_X1_hasBucketOfFullDepth_39 : FL wsX1_hasBucketOfFullDepth RX1 39 0 0 := ⟨RX0, TX0, 5, rfl, (fun _ h => List.mem_cons_of_mem _ (List.mem_append_right _ h)), by decide, List.mem_of_getElem? (i := 2) rfl, rfl⟩
theorem fl_X1_hasBucketOfFullDepth_29 : FL wsX1_hasBucketOfFullDepth RX1 29 1 2 := ⟨RX1, TX1, 5, rfl, (fun _ h => List.mem_cons_of_mem _ (List.mem_append_left _ (List.mem_append_right _ h))), by decide, List.mem_of_getElem? (i := 3) rfl, rfl⟩
set_option maxHeartbeats 4000000 in
set_option maxRecDepth 100000 in
theorem c_X1_hasBucketOfFullDepth (l : Launch) (w : Wd) (a sz : Nat) (G : Pic) (dep nb nk n g : Nat) (R DB : Nat → Nat) (hS : StAt G a dep nb nk n g R DB) (hd : dep ≤ 8) (hn : n ≤ 256) (hdn : 2 ^ dep ≤ n) (L : Nat → Nat) (hL : ∀ j, j < 2 ^ dep → (∃ vs, G (R j) = some (gO 0 (.int (nI (L j)) :: vs))) ∧ L j < 2 ^ 31) : Ct l w yX1_hasBucketOfFullDepth wsX1_hasBucketOfFullDepth ⟨1, 0, 0, 20⟩ [.ref (a)] G sz (rt (some (.int (bI (anyD L dep (2 ^ dep))))) G sz) := by
  refine Ct.of (cc := cX1_hasBucketOfFullDepth) (maxL := 2) (ret := (some .boolean)) (L := [some (.ref (a)), none]) (by decide +kernel) rfl (by simp [Value.category]) (by simp) rfl ?_
  intro p e s m args below meth c k hM
  have hp := p2le hd
  have hpp := p2pos dep
  have lp : ∀ (nq i : Nat) , i ≤ 2 ^ dep → 2 ^ dep - i < nq → (∀ j, j < i → L j ≠ dep) → V p l e ⟨1, 0, 0, 20⟩ s m args below meth c w G sz 0 0 (mQ w below args s ⟨1, 0, 0, 20⟩ (rt (some (.int (bI (anyD L dep (2 ^ dep))))) G sz)) 2 [some (.ref (a)), some (.int (nI (i)))] [] := by
    intro nq
    induction nq with
    | zero => intro i  h1 h2 hI; omega
    | succ nq ih =>
      intro i  h1 h2 hI
      refine V.iload_n k dX1_hasBucketOfFullDepth_2 rfl ?_
      refine V.aload_n k dX1_hasBucketOfFullDepth_3 rfl ?_
      refine V.cV (As := []) (ci := 1) (st1 := [.int (nI (2 ^ dep)), .int (nI (i))]) k dX1_hasBucketOfFullDepth_4 (c_X1_entries l w a sz G dep nb nk n g R DB hS hd hn hdn) gX1_hasBucketOfFullDepth_X1_entries rfl rfl (hS.1) ⟨rfl, hd_X1_entries⟩ ⟨⟨Nat.le_of_ble_eq_true rfl, Nat.le_of_ble_eq_true rfl⟩, Nat.le_of_ble_eq_true rfl, Nat.le_of_ble_eq_true rfl⟩ rfl rfl rfl (Nat.le_of_ble_eq_true rfl) rfl ?_
      refine V.n_ge (tgt := 34) k dX1_hasBucketOfFullDepth_7 (by decide) (by omega) (by omega) (fun hb => ?_) (fun hb => ?_)
      · have hi : i = 2 ^ dep := by omega
        subst hi
        rw [show anyD L dep (2 ^ dep) = false from anyD_no hI]
        refine V.iconst (v := nI 0) k dX1_hasBucketOfFullDepth_34 (by decide) ?_
        exact V.zret k hM dX1_hasBucketOfFullDepth_35 (by first | rfl | decide) (Nat.le_of_ble_eq_true rfl) (Nat.le_of_ble_eq_true rfl) (rt_ok)
      · obtain ⟨⟨vs, hv⟩, hl2⟩ := hL i hb
        refine V.aload_n k dX1_hasBucketOfFullDepth_10 rfl ?_
        refine V.getf (v := .ref (a + 1)) k dX1_hasBucketOfFullDepth_11 fl_X1_hasBucketOfFullDepth_11 (hS.1) rfl ?_
        refine V.iload_n k dX1_hasBucketOfFullDepth_14 rfl ?_
        refine V.bald (b := R (i)) k dX1_hasBucketOfFullDepth_15 (hS.2.1) rfl (by omega) (by omega) (rfl) ?_
        refine V.getf (v := .int (nI (L i))) k dX1_hasBucketOfFullDepth_16 fl_X1_hasBucketOfFullDepth_39 (hv) rfl ?_
        refine V.aload_n k dX1_hasBucketOfFullDepth_19 rfl ?_
        refine V.getf (v := .int (nI (dep))) k dX1_hasBucketOfFullDepth_20 fl_X1_hasBucketOfFullDepth_29 (hS.1) rfl ?_
        refine V.n_ne (tgt := 28) k dX1_hasBucketOfFullDepth_23 (by decide) (by omega) (by omega) (fun hq => ?_) (fun hq => ?_)
        · refine V.iinc (x := (nI (i))) (v := (nI (i + 1))) (L' := [some (.ref (a)), some (.int (nI (i + 1)))]) k dX1_hasBucketOfFullDepth_28 rfl (nI_inc1 _) rfl ?_
          refine V.goto (tgt := 2) k dX1_hasBucketOfFullDepth_31 (by decide) ?_
          refine ih (i + 1) (by omega) (by omega) fun j hj => ?_
          by_cases hji : j = i
          · rw [hji]; exact hq
          · exact hI j (by omega)
        · rw [show anyD L dep (2 ^ dep) = true from (anyD_iff L dep _).mpr ⟨i, hb, hq⟩]
          refine V.iconst (v := nI 1) k dX1_hasBucketOfFullDepth_26 (by decide) ?_
          exact V.zret k hM dX1_hasBucketOfFullDepth_27 (by first | rfl | decide) (Nat.le_of_ble_eq_true rfl) (Nat.le_of_ble_eq_true rfl) (rt_ok)
  refine V.iconst (v := nI 0) k dX1_hasBucketOfFullDepth_0 (by decide) ?_
  refine V.istore_n (L' := [some (.ref (a)), some (.int (nI (0)))]) k dX1_hasBucketOfFullDepth_1 (Nat.le_of_ble_eq_true rfl) rfl ?_
  exact lp (2 ^ dep + 1) 0 (by omega) (by omega) fun j hj => absurd hj (by omega)
theorem fl_X1_halveWhilePossible_29 : FL wsX1_halveWhilePossible RX1 29 1 2 := ⟨RX1, TX1, 5, rfl, (fun _ h => List.mem_cons_of_mem _ (List.mem_append_left _ (List.mem_append_right _ h))), by decide, List.mem_of_getElem? (i := 1) rfl, rfl⟩
set_option maxHeartbeats 4000000 in
set_option maxRecDepth 100000 in
theorem c_X1_halveWhilePossible (l : Launch) (w : Wd) (a sz : Nat) (G : Pic) (dep nb nk n g : Nat) (R DB : Nat → Nat) (hS : StAt G a dep nb nk n g R DB) (hd : dep ≤ 8) (hn : n ≤ 256) (hdn : 2 ^ dep ≤ n) (L : Nat → Nat) (hL : ∀ j, j < 2 ^ dep → (∃ vs, G (R j) = some (gO 0 (.int (nI (L j)) :: vs))) ∧ L j < 2 ^ 31) (hRd : ∀ j, j < 2 ^ dep → (R j < a ∨ a + 2 < R j)) : Ct l w yX1_halveWhilePossible wsX1_halveWhilePossible ⟨2, 0, 0, 41⟩ [.ref (a)] G sz (fun v G' sz' => v = none ∧ sz' = sz ∧ StAt G' a (hvD L dep) nb nk n g R DB ∧ Sm G G' a) := by
  refine Ct.of (cc := cX1_halveWhilePossible) (maxL := 2) (ret := none) (L := [some (.ref (a)), none]) (by decide +kernel) rfl (by simp [Value.category]) (by simp) rfl ?_
  intro p e s m args below meth c k hM
  have hp := p2le hd
  have hpp := p2pos dep
  have lp : ∀ (i : Nat) (G2 : Pic), i ≤ dep → (hvD L i = hvD L dep ∧ StAt G2 a i nb nk n g R DB ∧ Sm G G2 a) → V p l e ⟨2, 0, 0, 41⟩ s m args below meth c w G2 sz 0 0 (mQ w below args s ⟨2, 0, 0, 41⟩ (fun v G' sz' => v = none ∧ sz' = sz ∧ StAt G' a (hvD L dep) nb nk n g R DB ∧ Sm G G' a)) 5 [some (.ref (a)), some (.int (nI (i)))] [] := by
    intro i
    induction i with
    | zero =>
      intro G2 h1 hI
      obtain ⟨he, hI, hs⟩ := hI
      rw [← he]
      refine V.iload_n k dX1_halveWhilePossible_5 rfl ?_
      refine V.z_le (tgt := 32) k dX1_halveWhilePossible_6 (by decide) (by omega) (fun hb => ?_) (fun hb => ?_)
      · exact V.vret k hM dX1_halveWhilePossible_32 (Nat.le_of_ble_eq_true rfl) (Nat.le_of_ble_eq_true rfl) (⟨rfl, rfl, hI, hs⟩)
      · exact absurd hb (by omega)
    | succ i ih =>
      intro G2 h1 hI
      obtain ⟨he, hI, hs⟩ := hI
      have hpi : 2 ^ (i + 1) ≤ 2 ^ dep := Nat.pow_le_pow_right (by omega) h1
      refine V.iload_n k dX1_halveWhilePossible_5 rfl ?_
      refine V.z_le (tgt := 32) k dX1_halveWhilePossible_6 (by decide) (by omega) (fun hb => ?_) (fun hb => ?_)
      · exact absurd hb (by omega)
      · refine V.aload_n k dX1_halveWhilePossible_9 rfl ?_
        refine V.cV (As := []) (ci := 1) (st1 := [.int (bI (anyD L (i + 1) (2 ^ (i + 1))))]) k dX1_halveWhilePossible_10 (c_X1_hasBucketOfFullDepth l w a sz G2 (i + 1) nb nk n g R DB hI (by omega) hn (by omega) L (fun j hj => ⟨by obtain ⟨vs, hv⟩ := (hL j (by omega)).1; exact ⟨vs, (hs _ (hRd j (by omega))).trans hv⟩, (hL j (by omega)).2⟩)) gX1_halveWhilePossible_X1_hasBucketOfFullDepth rfl rfl (hI.1) ⟨rfl, hd_X1_hasBucketOfFullDepth⟩ ⟨⟨Nat.le_of_ble_eq_true rfl, Nat.le_of_ble_eq_true rfl⟩, Nat.le_of_ble_eq_true rfl, Nat.le_of_ble_eq_true rfl⟩ rfl rfl rfl (Nat.le_of_ble_eq_true rfl) rfl ?_
        refine V.b_ne (tgt := 32) k dX1_halveWhilePossible_13 (by decide) (fun hq => ?_) (fun hq => ?_)
        · have hv : hvD L (i + 1) = i + 1 := by rw [hvD, if_pos hq]
          rw [← he, hv]
          exact V.vret k hM dX1_halveWhilePossible_32 (Nat.le_of_ble_eq_true rfl) (Nat.le_of_ble_eq_true rfl) (⟨rfl, rfl, hI, hs⟩)
        · have hv : hvD L (i + 1) = hvD L i := by rw [hvD, if_neg (by rw [hq]; decide)]
          refine V.aload_n k dX1_halveWhilePossible_16 rfl ?_
          refine V.dup k dX1_halveWhilePossible_17 rfl ?_
          refine V.getf (v := .int (nI (i + 1))) k dX1_halveWhilePossible_18 fl_X1_halveWhilePossible_29 (hI.1) rfl ?_
          refine V.iconst (v := nI 1) k dX1_halveWhilePossible_21 (by decide) ?_
          refine V.isub (v := (nI (i))) k dX1_halveWhilePossible_22 (pk_sub (by omega)) ?_
          refine V.putf (fs' := [.ref (a + 1), .ref (a + 2), .int (nI (i)), .int (nI (nb)), .int (nI (nk))]) k dX1_halveWhilePossible_23 fl_X1_halveWhilePossible_29 ft_X1_2 (hI.1) (by first | rfl | decide) rfl (Nat.le_of_ble_eq_true rfl) rfl ?_
          refine V.iinc (x := nI (i + 1)) (v := nI i) (L' := [some (.ref a), some (.int (nI i))]) k dX1_halveWhilePossible_26 rfl (nI_dec1 (by omega)) rfl ?_
          refine V.goto (tgt := 5) k dX1_halveWhilePossible_29 (by decide) ?_
          exact ih _ (by omega) ⟨hv.symm.trans he, ⟨gup_self _ _ _, (gup_ne _ _ (by omega)).trans (hI.2.1), (gup_ne _ _ (by omega)).trans (hI.2.2)⟩, hs.tr (Sm.up _ (by omega))⟩
  refine V.aload_n k dX1_halveWhilePossible_0 rfl ?_
  refine V.getf (v := .int (nI (dep))) k dX1_halveWhilePossible_1 fl_X1_halveWhilePossible_29 (hS.1) rfl ?_
  refine V.istore_n (L' := [some (.ref (a)), some (.int (nI (dep)))]) k dX1_halveWhilePossible_4 (Nat.le_of_ble_eq_true rfl) rfl ?_
  exact lp dep G (Nat.le_refl _) ⟨rfl, hS, Sm.rf G a⟩
theorem fl_X1_changedBuckets_11 : FL wsX1_changedBuckets RX1 11 1 0 := ⟨RX1, TX1, 5, rfl, (fun _ h => List.mem_cons_of_mem _ (List.mem_append_left _ (List.mem_append_right _ h))), by decide, List.mem_of_getElem? (i := 1) rfl, rfl⟩
theorem fl_X1_changedBuckets_39 : FL wsX1_changedBuckets RX1 39 0 0 := ⟨RX0, TX0, 5, rfl, (fun _ h => List.mem_cons_of_mem _ (List.mem_append_right _ h)), by decide, List.mem_of_getElem? (i := 2) rfl, rfl⟩
theorem fl_X1_changedBuckets_46 : FL wsX1_changedBuckets RX1 46 0 4 := ⟨RX0, TX0, 5, rfl, (fun _ h => List.mem_cons_of_mem _ (List.mem_append_right _ h)), by decide, List.mem_of_getElem? (i := 3) rfl, rfl⟩
set_option maxHeartbeats 4000000 in
set_option maxRecDepth 100000 in
theorem c_X1_changedBuckets (l : Launch) (w : Wd) (a sz : Nat) (G : Pic) (dep nb nk n g : Nat) (R DB : Nat → Nat) (hS : StAt G a dep nb nk n g R DB) (hd : dep ≤ 8) (hn : n ≤ 256) (hdn : 2 ^ dep ≤ n) (L H : Nat → Nat) (hL : ∀ j, j < 2 ^ dep → (∃ v1 v2 v3, G (R j) = some (gO 0 [.int (nI (L j)), v1, v2, v3, .int (nI (H j))])) ∧ L j ≤ 30 ∧ H j < 2 ^ 31) : Ct l w yX1_changedBuckets wsX1_changedBuckets ⟨1, 0, 0, 20⟩ [.ref (a)] G sz (rt (some (.int (nI (cntC L H (2 ^ dep))))) G sz) := by
  refine Ct.of (cc := cX1_changedBuckets) (maxL := 4) (ret := (some .int)) (L := [some (.ref (a)), none, none, none]) (by decide +kernel) rfl (by simp [Value.category]) (by simp) rfl ?_
  intro p e s m args below meth c k hM
  have hp := p2le hd
  have hpp := p2pos dep
  have lp : ∀ (nq i : Nat) , i ≤ 2 ^ dep → 2 ^ dep - i < nq → V p l e ⟨1, 0, 0, 20⟩ s m args below meth c w G sz 0 0 (mQ w below args s ⟨1, 0, 0, 20⟩ (rt (some (.int (nI (cntC L H (2 ^ dep))))) G sz)) 4 [some (.ref (a)), some (.int (nI (cntC L H i))), some (.int (nI (i))), none] [] := by
    intro nq
    induction nq with
    | zero => intro i  h1 h2 ; omega
    | succ nq ih =>
      intro i  h1 h2 
      have hci := cntC_le L H i
      refine V.iload_n k dX1_changedBuckets_4 rfl ?_
      refine V.aload_n k dX1_changedBuckets_5 rfl ?_
      refine V.cV (As := []) (ci := 1) (st1 := [.int (nI (2 ^ dep)), .int (nI (i))]) k dX1_changedBuckets_6 (c_X1_entries l w a sz G dep nb nk n g R DB hS hd hn hdn) gX1_changedBuckets_X1_entries rfl rfl (hS.1) ⟨rfl, hd_X1_entries⟩ ⟨⟨Nat.le_of_ble_eq_true rfl, Nat.le_of_ble_eq_true rfl⟩, Nat.le_of_ble_eq_true rfl, Nat.le_of_ble_eq_true rfl⟩ rfl rfl rfl (Nat.le_of_ble_eq_true rfl) rfl ?_
      refine V.n_ge (tgt := 58) k dX1_changedBuckets_9 (by decide) (by omega) (by omega) (fun hb => ?_) (fun hb => ?_)
      · have hi : i = 2 ^ dep := by omega
        subst hi
        refine V.iload_n k dX1_changedBuckets_58 rfl ?_
        exact V.iret k hM dX1_changedBuckets_59 (Nat.le_of_ble_eq_true rfl) (Nat.le_of_ble_eq_true rfl) (rt_ok)
      · obtain ⟨⟨v1, v2, v3, hv⟩, hl2, hh2⟩ := hL i hb
        have hq30 : 2 ^ L i ≤ 2 ^ 30 := Nat.pow_le_pow_right (by omega) hl2
        refine V.iload_n k dX1_changedBuckets_12 rfl ?_
        refine V.iconst (v := nI 1) k dX1_changedBuckets_13 (by decide) ?_
        refine V.aload_n k dX1_changedBuckets_14 rfl ?_
        refine V.getf (v := .ref (a + 1)) k dX1_changedBuckets_15 fl_X1_changedBuckets_11 (hS.1) rfl ?_
        refine V.iload_n k dX1_changedBuckets_18 rfl ?_
        refine V.bald (b := R (i)) k dX1_changedBuckets_19 (hS.2.1) rfl (by omega) (by omega) (rfl) ?_
        refine V.getf (v := .int (nI (L i))) k dX1_changedBuckets_20 fl_X1_changedBuckets_39 (hv) rfl ?_
        refine V.ishl (v := (nI (2 ^ (L i)))) k dX1_changedBuckets_23 (shl1 (by omega)) ?_
        refine V.n_ge (tgt := 31) k dX1_changedBuckets_24 (by decide) (by omega) (by omega) (fun hq => ?_) (fun hq => ?_)
        · refine V.iconst (v := nI 0) k dX1_changedBuckets_31 (by decide) ?_
          refine V.istore_n (L' := [some (.ref (a)), some (.int (nI (cntC L H i))), some (.int (nI (i))), some (.int (nI (0)))]) k dX1_changedBuckets_32 (Nat.le_of_ble_eq_true rfl) rfl ?_
          refine V.iload_n k dX1_changedBuckets_33 rfl ?_
          refine V.z_eq (tgt := 52) k dX1_changedBuckets_34 (by decide) (by omega) (fun hz => ?_) (fun hz => ?_)
          · rw [show cntC L H i = cntC L H (i + 1) by rw [cntC, if_neg (fun q => absurd (lt_mod.mpr q.1) (by omega))]]
            refine V.iinc (x := (nI (i))) (v := (nI (i + 1))) (L' := [some (.ref (a)), some (.int (nI (cntC L H (i + 1)))), some (.int (nI (i + 1))), some (.int (nI (0)))]) k dX1_changedBuckets_52 rfl (nI_inc1 _) rfl ?_
            refine V.dropL 3 (L' := [some (.ref (a)), some (.int (nI (cntC L H (i + 1)))), some (.int (nI (i + 1))), none]) rfl ?_
            refine V.goto (tgt := 4) k dX1_changedBuckets_55 (by decide) ?_
            exact ih (i + 1) (by omega) (by omega)
          · exact absurd hz (by omega)
        · refine V.iconst (v := nI 1) k dX1_changedBuckets_27 (by decide) ?_
          refine V.goto (tgt := 32) k dX1_changedBuckets_28 (by decide) ?_
          refine V.istore_n (L' := [some (.ref (a)), some (.int (nI (cntC L H i))), some (.int (nI (i))), some (.int (nI (1)))]) k dX1_changedBuckets_32 (Nat.le_of_ble_eq_true rfl) rfl ?_
          refine V.iload_n k dX1_changedBuckets_33 rfl ?_
          refine V.z_eq (tgt := 52) k dX1_changedBuckets_34 (by decide) (by omega) (fun hz => ?_) (fun hz => ?_)
          · exact absurd hz (by omega)
          · refine V.aload_n k dX1_changedBuckets_37 rfl ?_
            refine V.getf (v := .ref (a + 1)) k dX1_changedBuckets_38 fl_X1_changedBuckets_11 (hS.1) rfl ?_
            refine V.iload_n k dX1_changedBuckets_41 rfl ?_
            refine V.bald (b := R (i)) k dX1_changedBuckets_42 (hS.2.1) rfl (by omega) (by omega) (rfl) ?_
            refine V.getf (v := .int (nI (H i))) k dX1_changedBuckets_43 fl_X1_changedBuckets_46 (hv) rfl ?_
            refine V.z_ne (tgt := 52) k dX1_changedBuckets_46 (by decide) (by omega) (fun hw => ?_) (fun hw => ?_)
            · rw [show cntC L H i = cntC L H (i + 1) by rw [cntC, if_neg (fun q => absurd q.2 (by omega))]]
              refine V.iinc (x := (nI (i))) (v := (nI (i + 1))) (L' := [some (.ref (a)), some (.int (nI (cntC L H (i + 1)))), some (.int (nI (i + 1))), some (.int (nI (1)))]) k dX1_changedBuckets_52 rfl (nI_inc1 _) rfl ?_
              refine V.dropL 3 (L' := [some (.ref (a)), some (.int (nI (cntC L H (i + 1)))), some (.int (nI (i + 1))), none]) rfl ?_
              refine V.goto (tgt := 4) k dX1_changedBuckets_55 (by decide) ?_
              exact ih (i + 1) (by omega) (by omega)
            · refine V.iinc (x := (nI (cntC L H i))) (v := (nI (cntC L H i + 1))) (L' := [some (.ref (a)), some (.int (nI (cntC L H i + 1))), some (.int (nI (i))), some (.int (nI (1)))]) k dX1_changedBuckets_49 rfl (nI_inc1 _) rfl ?_
              rw [show cntC L H i + 1 = cntC L H (i + 1) by rw [cntC, if_pos ⟨lt_mod.mp (by omega), hw⟩]]
              refine V.iinc (x := (nI (i))) (v := (nI (i + 1))) (L' := [some (.ref (a)), some (.int (nI (cntC L H (i + 1)))), some (.int (nI (i + 1))), some (.int (nI (1)))]) k dX1_changedBuckets_52 rfl (nI_inc1 _) rfl ?_
              refine V.dropL 3 (L' := [some (.ref (a)), some (.int (nI (cntC L H (i + 1)))), some (.int (nI (i + 1))), none]) rfl ?_
              refine V.goto (tgt := 4) k dX1_changedBuckets_55 (by decide) ?_
              exact ih (i + 1) (by omega) (by omega)
  refine V.iconst (v := nI 0) k dX1_changedBuckets_0 (by decide) ?_
  refine V.istore_n (L' := [some (.ref (a)), some (.int (nI (0))), none, none]) k dX1_changedBuckets_1 (Nat.le_of_ble_eq_true rfl) rfl ?_
  refine V.iconst (v := nI 0) k dX1_changedBuckets_2 (by decide) ?_
  refine V.istore_n (L' := [some (.ref (a)), some (.int (nI (0))), some (.int (nI (0))), none]) k dX1_changedBuckets_3 (Nat.le_of_ble_eq_true rfl) rfl ?_
  exact lp (2 ^ dep + 1) 0 (by omega) (by omega)
