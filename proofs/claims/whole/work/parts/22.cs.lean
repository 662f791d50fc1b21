/-! the class's state: A the object's numbers, S R DB the three States', T the taken row, BI BD the buckets, P which cells are buckets, M the reference's cells -/
def xO (y : Nat) (A : Nat → Nat) : Ent := gO 2 [.int (nI (A 0)), .int (nI (A 1)), .ref (y + 4), .ref (y + 7), .ref (y + 14), .int (nI (A 5)), .int (nI (A 6)), .int (nI (A 7)), .int (nI (A 8))]
def AB (A : Nat → Nat) : Prop := 8 ≤ A 0 ∧ A 0 ≤ 200 ∧ A 1 ≤ 8 ∧ A 5 ≤ 1 ∧ A 7 < 2 ^ 31 ∧ A 8 ≤ 1
def s3 (d b k : Nat) : Nat → Nat := fun j => if j = 2 then d else if j = 3 then b else k
def CS (y sz : Nat) (A : Nat → Nat) (S R DB : Nat → Nat → Nat) (T : Nat → Bool) (BI : Nat → Nat → Nat) (BD : Nat → Nat → Nat → Int32) (P : Nat → Prop) (M G : Pic) : Prop :=
  (G y = some (xO y A) ∧ StAt G (y + 4) (S 0 2) (S 0 3) (S 0 4) (2 ^ A 1) (drB (A 1)) (R 0) (DB 0) ∧
    (∀ j, j < 2 → StAt G (y + 8 + 3 * j) (S (1 + j) 2) (S (1 + j) 3) (S (1 + j) 4) (2 ^ A 1) (drB (A 1)) (R (1 + j)) (DB (1 + j))) ∧
    G (y + 7) = some (gS 2 (fun j => some (y + 8 + 3 * j))) ∧ G (y + 14) = some (gZ (A 0) (fun j => bI (T j)))) ∧
  ((∀ b, P b → BkAt G b (BI 0 b) (BI 3 b) (BI 4 b) (BD 0 b) (BD 1 b) ∧ (b = y + 1 ∨ y + 26 ≤ b) ∧ b + 2 < sz) ∧ (∀ b b', P b → P b' → b = b' ∨ b + 2 < b' ∨ b' + 2 < b)) ∧
  ((∀ q, y + 15 ≤ q → q < y + 26 → G q = M q) ∧ y + 26 ≤ sz) ∧ AB A
def setI (BI : Nat → Nat → Nat) (b l c k : Nat) : Nat → Nat → Nat := fun j q => if q = b then (if j = 0 then l else if j = 3 then c else if j = 4 then k else BI j q) else BI j q
def setD (BD : Nat → Nat → Nat → Int32) (b : Nat) (K U : Nat → Int32) : Nat → Nat → Nat → Int32 := fun j q => if q = b then (if j = 0 then K else if j = 1 then U else BD j q) else BD j q
section CSS
variable {y sz : Nat} {A : Nat → Nat} {S R DB : Nat → Nat → Nat} {T : Nat → Bool} {BI : Nat → Nat → Nat} {BD : Nat → Nat → Nat → Int32} {P : Nat → Prop} {M G G' : Pic}
theorem CS.mas (h : CS y sz A S R DB T BI BD P M G) : StAt G (y + 8 + 3 * A 5) (S (1 + A 5) 2) (S (1 + A 5) 3) (S (1 + A 5) 4) (2 ^ A 1) (drB (A 1)) (R (1 + A 5)) (DB (1 + A 5)) := h.1.2.2.1 (A 5) (by have := h.2.2.2.2.2.2.1; omega)
theorem CS.bk (h : CS y sz A S R DB T BI BD P M G) {b : Nat} (hb : P b) : BkAt G b (BI 0 b) (BI 3 b) (BI 4 b) (BD 0 b) (BD 1 b) := (h.2.1.1 b hb).1
theorem CS.at (h : CS y sz A S R DB T BI BD P M G) {b : Nat} (hb : P b) : (b = y + 1 ∨ y + 26 ≤ b) ∧ b + 2 < sz := (h.2.1.1 b hb).2
theorem CS.ab (h : CS y sz A S R DB T BI BD P M G) : AB A := h.2.2.2
theorem CS.putA {A' : Nat → Nat} (h : CS y sz A S R DB T BI BD P M G) (h0 : A' 0 = A 0) (h1 : A' 1 = A 1) (hab : AB A') : CS y sz A' S R DB T BI BD P M (gup G y (xO y A')) := by
  obtain ⟨⟨a1, a2, a3, a4, a5⟩, ⟨b1, b2⟩, ⟨c1, c2⟩, -⟩ := h
  have hs : Sm G (gup G y (xO y A')) (y - 2) := fun q hq => gup_ne _ _ (by omega)
  refine ⟨⟨gup_self _ _ _, by rw [h1]; exact a2.sm (fun q hq => gup_ne (a := y) _ _ (by omega)) (Or.inr (show y + 2 < y + 4 by omega)), fun j hj => ?_, (gup_ne _ _ (by omega)).trans a4, by rw [h0]; exact (gup_ne _ _ (by omega)).trans a5⟩, ⟨fun b hb => ?_, b2⟩, ⟨fun q h1 h2 => (gup_ne _ _ (by omega)).trans (c1 q h1 h2), c2⟩, hab⟩
  · rw [h1]
    exact (a3 j hj).sm (fun q hq => gup_ne (a := y) _ _ (by omega)) (Or.inr (show y + 2 < y + 8 + 3 * j by omega))
  · obtain ⟨d1, d2, d3⟩ := b1 b hb
    exact ⟨⟨(gup_ne _ _ (by omega)).trans d1.1, (gup_ne _ _ (by omega)).trans d1.2.1, (gup_ne _ _ (by omega)).trans d1.2.2⟩, d2, d3⟩
theorem CS.putT {T' : Nat → Bool} (h : CS y sz A S R DB T BI BD P M G) : CS y sz A S R DB T' BI BD P M (gup G (y + 14) (gZ (A 0) (fun j => bI (T' j)))) := by
  obtain ⟨⟨a1, a2, a3, a4, a5⟩, ⟨b1, b2⟩, ⟨c1, c2⟩, d⟩ := h
  refine ⟨⟨(gup_ne _ _ (by omega)).trans a1, ⟨(gup_ne _ _ (by omega)).trans a2.1, (gup_ne _ _ (by omega)).trans a2.2.1, (gup_ne _ _ (by omega)).trans a2.2.2⟩, fun j hj => ?_, (gup_ne _ _ (by omega)).trans a4, gup_self _ _ _⟩, ⟨fun b hb => ?_, b2⟩, ⟨fun q h1 h2 => (gup_ne _ _ (by omega)).trans (c1 q h1 h2), c2⟩, d⟩
  · obtain ⟨e1, e2, e3⟩ := a3 j hj
    exact ⟨(gup_ne _ _ (by omega)).trans e1, (gup_ne _ _ (by omega)).trans e2, (gup_ne _ _ (by omega)).trans e3⟩
  · obtain ⟨d1, d2, d3⟩ := b1 b hb
    exact ⟨⟨(gup_ne _ _ (by omega)).trans d1.1, (gup_ne _ _ (by omega)).trans d1.2.1, (gup_ne _ _ (by omega)).trans d1.2.2⟩, d2, d3⟩
theorem CS.live {d b k : Nat} {R0 D0 : Nat → Nat} (h : CS y sz A S R DB T BI BD P M G) (hs : StAt G' (y + 4) d b k (2 ^ A 1) (drB (A 1)) R0 D0) (hm : Sm G G' (y + 4)) : CS y sz A (va_up S 0 (s3 d b k)) (va_up R 0 R0) (va_up DB 0 D0) T BI BD P M G' := by
  obtain ⟨⟨a1, a2, a3, a4, a5⟩, ⟨b1, b2⟩, ⟨c1, c2⟩, e⟩ := h
  refine ⟨⟨(hm _ (by omega)).trans a1, hs, fun j hj => ?_, (hm _ (by omega)).trans a4, (hm _ (by omega)).trans a5⟩, ⟨fun b hb => ?_, b2⟩, ⟨fun q h1 h2 => (hm _ (by omega)).trans (c1 q h1 h2), c2⟩, e⟩
  · rw [va_up_ne _ _ (by omega : 1 + j ≠ 0), va_up_ne _ _ (by omega : 1 + j ≠ 0), va_up_ne _ _ (by omega : 1 + j ≠ 0)]
    exact (a3 j hj).sm hm (by omega)
  · obtain ⟨d1, d2, d3⟩ := b1 b hb
    exact ⟨d1.sm hm (by omega), d2, d3⟩
theorem CS.master {j d b k : Nat} {R0 D0 : Nat → Nat} (hj : j < 2) (h : CS y sz A S R DB T BI BD P M G) (hs : StAt G' (y + 8 + 3 * j) d b k (2 ^ A 1) (drB (A 1)) R0 D0) (hm : Sm G G' (y + 8 + 3 * j)) : CS y sz A (va_up S (1 + j) (s3 d b k)) (va_up R (1 + j) R0) (va_up DB (1 + j) D0) T BI BD P M G' := by
  obtain ⟨⟨a1, a2, a3, a4, a5⟩, ⟨b1, b2⟩, ⟨c1, c2⟩, e⟩ := h
  refine ⟨⟨(hm _ (by omega)).trans a1, ?_, fun i hi => ?_, (hm _ (by omega)).trans a4, (hm _ (by omega)).trans a5⟩, ⟨fun b hb => ?_, b2⟩, ⟨fun q h1 h2 => (hm _ (by omega)).trans (c1 q h1 h2), c2⟩, e⟩
  · rw [va_up_ne _ _ (by omega : 0 ≠ 1 + j), va_up_ne _ _ (by omega : 0 ≠ 1 + j), va_up_ne _ _ (by omega : 0 ≠ 1 + j)]
    exact a2.sm hm (by omega)
  · by_cases hij : i = j
    · subst hij
      rw [va_up_self, va_up_self, va_up_self]
      exact hs
    · rw [va_up_ne _ _ (by omega : 1 + i ≠ 1 + j), va_up_ne _ _ (by omega : 1 + i ≠ 1 + j), va_up_ne _ _ (by omega : 1 + i ≠ 1 + j)]
      exact (a3 i hi).sm hm (by omega)
  · obtain ⟨d1, d2, d3⟩ := b1 b hb
    exact ⟨d1.sm hm (by omega), d2, d3⟩
theorem CS.bkt {b l c k : Nat} {K U : Nat → Int32} (h : CS y sz A S R DB T BI BD P M G) (hb : P b) (hs : BkAt G' b l c k K U) (hm : Sm G G' b) : CS y sz A S R DB T (setI BI b l c k) (setD BD b K U) P M G' := by
  obtain ⟨⟨a1, a2, a3, a4, a5⟩, ⟨b1, b2⟩, ⟨c1, c2⟩, e⟩ := h
  obtain ⟨-, g2, g3⟩ := b1 b hb
  refine ⟨⟨(hm _ (by omega)).trans a1, a2.sm hm (by omega), fun j hj => (a3 j hj).sm hm (by omega), (hm _ (by omega)).trans a4, (hm _ (by omega)).trans a5⟩, ⟨fun q hq => ?_, b2⟩, ⟨fun q h1 h2 => (hm _ (by omega)).trans (c1 q h1 h2), c2⟩, e⟩
  by_cases hqb : q = b
  · subst hqb
    refine ⟨?_, g2, g3⟩
    simp only [setI, setD, if_pos]
    exact hs
  · obtain ⟨d1, d2, d3⟩ := b1 q hq
    refine ⟨?_, d2, d3⟩
    simp only [setI, setD, if_neg hqb]
    exact d1.sm hm (by rcases b2 q b hq hb with h | h | h <;> omega)
theorem CS.fresh {l c k : Nat} {K U : Nat → Int32} (h : CS y sz A S R DB T BI BD P M G) (hs : BkAt G' sz l c k K U) (hm : ∀ q, q < sz → G' q = G q) : CS y (sz + 3) A S R DB T (setI BI sz l c k) (setD BD sz K U) (fun q => P q ∨ q = sz) M G' := by
  obtain ⟨⟨a1, a2, a3, a4, a5⟩, ⟨b1, b2⟩, ⟨c1, c2⟩, e⟩ := h
  refine ⟨⟨(hm _ (by omega)).trans a1, ⟨(hm _ (by omega)).trans a2.1, (hm _ (by omega)).trans a2.2.1, (hm _ (by omega)).trans a2.2.2⟩, fun j hj => ⟨(hm _ (by omega)).trans (a3 j hj).1, (hm _ (by omega)).trans (a3 j hj).2.1, (hm _ (by omega)).trans (a3 j hj).2.2⟩, (hm _ (by omega)).trans a4, (hm _ (by omega)).trans a5⟩, ⟨fun q hq => ?_, fun q q' hq hq' => ?_⟩, ⟨fun q h1 h2 => (hm _ (by omega)).trans (c1 q h1 h2), by omega⟩, e⟩
  · rcases hq with hq | hq
    · obtain ⟨d1, d2, d3⟩ := b1 q hq
      have hqb : ¬ q = sz := by omega
      refine ⟨?_, d2, by omega⟩
      simp only [setI, setD, if_neg hqb]
      exact ⟨(hm _ (by omega)).trans d1.1, (hm _ (by omega)).trans d1.2.1, (hm _ (by omega)).trans d1.2.2⟩
    · subst hq
      refine ⟨?_, by omega, by omega⟩
      simp only [setI, setD, if_pos]
      exact hs
  · rcases hq with hq | hq <;> rcases hq' with hq' | hq'
    · exact b2 q q' hq hq'
    · have := (b1 q hq).2.2; omega
    · have := (b1 q' hq').2.2; omega
    · omega
end CSS
theorem va_up_self3 (S : Nat → Nat → Nat) (i : Nat) {d b k : Nat} (h : ∀ j, S i j = s3 d b k j) : va_up S i (s3 d b k) = S := by
  funext i' j
  unfold va_up
  by_cases hi : i' = i
  · rw [if_pos hi, hi, h]
  · rw [if_neg hi]
theorem drB_pos (d : Nat) : 0 < drB d := by
  unfold drB
  split
  · omega
  · exact Nat.two_pow_pos _
def iDB : Nat → Nat := va_up (fun _ => 0) 0 3
theorem fill_0 (c0 : Nat) : (fun _ : Nat => (none : Option Nat)) = fun j => if j < 0 then some c0 else none := by
  funext j
  simp
theorem fill_s (c0 i : Nat) : va_up (fun j : Nat => if j < i then some c0 else none) i (some c0) = fun j => if j < i + 1 then some c0 else none := by
  funext j
  unfold va_up
  by_cases h : j = i
  · subst h; simp
  · rw [if_neg h]
    show (if j < i then some c0 else none) = _
    by_cases h2 : j < i
    · rw [if_pos h2, if_pos (by omega)]
    · rw [if_neg h2, if_neg (by omega)]
theorem fl_X1_init_11 : FL wsX1_init RX1 11 1 0 := ⟨RX1, TX1, 5, rfl, (fun _ h => List.mem_cons_of_mem _ (List.mem_append_right _ h)), by decide, List.mem_of_getElem? (i := 5) rfl, rfl⟩
theorem fl_X1_init_21 : FL wsX1_init RX1 21 1 1 := ⟨RX1, TX1, 5, rfl, (fun _ h => List.mem_cons_of_mem _ (List.mem_append_right _ h)), by decide, List.mem_of_getElem? (i := 7) rfl, rfl⟩
theorem fl_X1_init_25 : FL wsX1_init RX1 25 1 3 := ⟨RX1, TX1, 5, rfl, (fun _ h => List.mem_cons_of_mem _ (List.mem_append_right _ h)), by decide, List.mem_of_getElem? (i := 8) rfl, rfl⟩
set_option maxHeartbeats 4000000 in
set_option maxRecDepth 100000 in
theorem c_X1_init (l : Launch) (w : Wd) (host : String) (a sz : Nat) (G : Pic) (dd c0 : Nat) (vs : List Value) (hsz : sz = a + 1) (hG : G a = some (gO 1 [.null, .null, .int (nI 0), .int (nI 0), .int (nI 0)])) (hc : G c0 = some (gO 0 vs)) (hca : c0 < a) (hdd : dd ≤ 8) : CtN l w host yX1_init wsX1_init ⟨1, 2, 264, 20⟩ [.ref (a), .int (nI (dd)), .ref (c0)] G sz (fun v G' sz' => v = none ∧ sz' = a + 3 ∧ StAt G' a 0 1 0 (2 ^ dd) (drB dd) (fun _ => c0) iDB ∧ ∀ q, q < a → G' q = G q) := by
  refine CtN.of (cc := cX1_init) (maxL := 4) (ret := none) (L := [some (.ref (a)), some (.int (nI (dd))), some (.ref (c0)), none]) (by decide +kernel) rfl (by simp [Value.category]) (by simp) rfl ?_
  intro p e s m args below meth c k hM hN
  subst hsz
  have hp := p2le hdd
  have hpp := p2pos dd
  have hdr := drB_le hdd
  have hdr0 := drB_pos dd
  refine V.aload_n k dX1_init_0 rfl ?_
  refine V.objInit k dX1_init_1 (List.mem_of_getElem? (i := 1) rfl) (List.mem_of_getElem? (i := 2) rfl) (List.mem_of_getElem? (i := 3) rfl) rfl (Nat.le_of_ble_eq_true rfl) (Nat.le_of_ble_eq_true rfl) ?_
  refine V.aload_n k dX1_init_4 rfl ?_
  refine V.iconst (v := nI 1) k dX1_init_5 (by decide) ?_
  refine V.iload_n k dX1_init_6 rfl ?_
  refine V.ishl (v := (nI (2 ^ (dd)))) k dX1_init_7 (shl1 (by omega)) ?_
  refine V.newB (n := 2 ^ dd) k dX1_init_8 rfl (List.mem_of_getElem? (i := 4) rfl) (by omega) (Nat.le_of_ble_eq_true rfl) (show 0 + 2 ^ dd ≤ 264 by omega) ?_
  refine V.putF (C0 := RX1) (fs' := [.ref (a + 1), .null, .int (nI (0)), .int (nI (0)), .int (nI (0))]) k dX1_init_11 fl_X1_init_11 ft_X1_0 rfl hM.2.2 ((gup_ne _ _ (by omega)).trans (hG)) (by first | rfl | decide) rfl (Nat.le_of_ble_eq_true rfl) rfl ?_
  refine V.iconst (v := nI 0) k dX1_init_14 (by decide) ?_
  refine V.istore_n (L' := [some (.ref (a)), some (.int (nI (dd))), some (.ref (c0)), some (.int (nI (0)))]) k dX1_init_15 (Nat.le_of_ble_eq_true rfl) rfl ?_
  have ha0 : (gup (gup G (a + 1) (gB (2 ^ dd) (fun _ => none))) (a) (gO 1 [.ref (a + 1), .null, .int (nI (0)), .int (nI (0)), .int (nI (0))])) a = some (gO 1 [.ref (a + 1), .null, .int (nI 0), .int (nI 0), .int (nI 0)]) := gup_self _ _ _
  have ha1 : (gup (gup G (a + 1) (gB (2 ^ dd) (fun _ => none))) (a) (gO 1 [.ref (a + 1), .null, .int (nI (0)), .int (nI (0)), .int (nI (0))])) (a + 1) = some (gB (2 ^ dd) (fun j => if j < 0 then some c0 else none)) := by rw [← fill_0]; exact (gup_ne _ _ (by omega)).trans (gup_self _ _ _)
  have haf : ∀ q, q < a → (gup (gup G (a + 1) (gB (2 ^ dd) (fun _ => none))) (a) (gO 1 [.ref (a + 1), .null, .int (nI (0)), .int (nI (0)), .int (nI (0))])) q = G q := fun q hq => (gup_ne _ _ (by omega)).trans ((gup_ne _ _ (by omega)).trans (rfl))
  generalize (gup (gup G (a + 1) (gB (2 ^ dd) (fun _ => none))) (a) (gO 1 [.ref (a + 1), .null, .int (nI (0)), .int (nI (0)), .int (nI (0))])) = G1 at ha0 ha1 haf ⊢
  have lp : ∀ (nq i : Nat) (G2 : Pic), i ≤ 2 ^ dd → 2 ^ dd - i < nq → (G2 a = some (gO 1 [.ref (a + 1), .null, .int (nI 0), .int (nI 0), .int (nI 0)]) ∧ G2 (a + 1) = some (gB (2 ^ dd) (fun j => if j < i then some c0 else none)) ∧ ∀ q, q < a → G2 q = G q) → V p l e ⟨1, 2, 264, 20⟩ s m args below meth c w G2 (a + 2) (0 + 1) (0 + 2 ^ dd) (mQ w below args s ⟨1, 2, 264, 20⟩ (fun v G' sz' => v = none ∧ sz' = a + 3 ∧ StAt G' a 0 1 0 (2 ^ dd) (drB dd) (fun _ => c0) iDB ∧ ∀ q, q < a → G' q = G q)) 16 [some (.ref (a)), some (.int (nI (dd))), some (.ref (c0)), some (.int (nI (i)))] [] := by
    intro nq
    induction nq with
    | zero => intro i G2 h1 h2 hI; omega
    | succ nq ih =>
      intro i G2 h1 h2 hI
      have hJ := hI
      refine V.iload_n k dX1_init_16 rfl ?_
      refine V.aload_n k dX1_init_17 rfl ?_
      refine V.getf (v := .ref (a + 1)) k dX1_init_18 fl_X1_init_11 (hI.1) rfl ?_
      refine V.alenB k dX1_init_21 (hI.2.1) ?_
      refine V.n_ge (tgt := 38) k dX1_init_22 (by decide) (by omega) (by omega) (fun hb => ?_) (fun hb => ?_)
      · have hi : i = 2 ^ dd := by omega
        subst hi
        refine V.picB (f' := fun j => some c0) hJ.2.1 (fun j hj => if_pos (by omega)) ?_
        refine V.aload_n k dX1_init_38 rfl ?_
        refine V.iload_n k dX1_init_39 rfl ?_
        refine V.callSN (host := host) (As := [.int (nI dd)]) k rfl hN dX1_init_40 (c_X2_blocksOfDirectory l w _ _ dd hdd) gX1_init_X2_blocksOfDirectory_n17 rfl (List.mem_of_getElem? (i := 10) rfl) (List.mem_of_getElem? (i := 9) rfl) ⟨⟨Nat.le_of_ble_eq_true rfl, Nat.le_of_ble_eq_true rfl⟩, Nat.le_of_ble_eq_true rfl, (show 0 + 2 ^ dd + 0 ≤ 264 by omega)⟩ rfl rfl rfl (Nat.le_of_ble_eq_true rfl) (fun v1 G3 sz3 hp1 => ?_)
        obtain ⟨rfl, rfl, rfl⟩ := hp1
        refine V.stk (st' := [.int (nI (drB dd)), .ref a]) rfl ?_
        refine V.newI (n := drB dd) k dX1_init_43 rfl (List.mem_of_getElem? (i := 6) rfl) (by omega) (Nat.le_of_ble_eq_true rfl) (show 0 + 2 ^ dd + 0 + drB dd ≤ 264 by omega) ?_
        refine V.putF (C0 := RX1) (fs' := [.ref (a + 1), .ref (a + 2), .int (nI (0)), .int (nI (0)), .int (nI (0))]) k dX1_init_45 fl_X1_init_21 ft_X1_1 rfl hM.2.2 ((gup_ne _ _ (by omega)).trans ((gup_ne _ _ (by omega)).trans (hJ.1))) (by first | rfl | decide) rfl (Nat.le_of_ble_eq_true rfl) rfl ?_
        refine V.aload_n k dX1_init_48 rfl ?_
        refine V.getf (v := .ref (a + 2)) k dX1_init_49 fl_X1_init_21 (gup_self _ _ _) rfl ?_
        refine V.iconst (v := nI 0) k dX1_init_52 (by decide) ?_
        refine V.iconst (v := nI 3) k dX1_init_53 (by decide) ?_
        refine V.iast (f := fun j => nI ((fun _ => 0) j)) (f' := fun j => nI ((va_up (fun _ => 0) (0) (3)) j)) k dX1_init_54 ((gup_ne _ _ (by omega)).trans (gup_self _ _ _)) rfl (by omega) (by omega) (upd_nI _ _ _) ?_
        refine V.aload_n k dX1_init_55 rfl ?_
        refine V.iconst (v := nI 1) k dX1_init_56 (by decide) ?_
        refine V.putf (fs' := [.ref (a + 1), .ref (a + 2), .int (nI (0)), .int (nI (1)), .int (nI (0))]) k dX1_init_57 fl_X1_init_25 ft_X1_3 ((gup_ne _ _ (by omega)).trans (gup_self _ _ _)) (by first | rfl | decide) rfl (Nat.le_of_ble_eq_true rfl) rfl ?_
        exact V.vret k hM dX1_init_60 (Nat.le_of_ble_eq_true rfl) (show 0 + 2 ^ dd + 0 + drB dd ≤ 264 by omega) (⟨rfl, rfl, ⟨gup_self _ _ _, (gup_ne _ _ (by omega)).trans ((gup_ne _ _ (by omega)).trans ((gup_ne _ _ (by omega)).trans ((gup_ne _ _ (by omega)).trans (gup_self _ _ _)))), (gup_ne _ _ (by omega)).trans (gup_self _ _ _)⟩, fun q hq => ((gup_ne _ _ (by omega)).trans ((gup_ne _ _ (by omega)).trans ((gup_ne _ _ (by omega)).trans ((gup_ne _ _ (by omega)).trans ((gup_ne _ _ (by omega)).trans (hJ.2.2 q hq))))))⟩)
      · refine V.aload_n k dX1_init_25 rfl ?_
        refine V.getf (v := .ref (a + 1)) k dX1_init_26 fl_X1_init_11 (hI.1) rfl ?_
        refine V.iload_n k dX1_init_29 rfl ?_
        refine V.aload_n k dX1_init_30 rfl ?_
        refine V.bast (f' := fun j => if j < i + 1 then some c0 else none) k dX1_init_31 hI.2.1 ((hI.2.2 c0 hca).trans hc) rfl (by omega) (by omega) (fill_s c0 i) ?_
        refine V.iinc (x := (nI (i))) (v := (nI (i + 1))) (L' := [some (.ref (a)), some (.int (nI (dd))), some (.ref (c0)), some (.int (nI (i + 1)))]) k dX1_init_32 rfl (nI_inc1 _) rfl ?_
        refine V.goto (tgt := 16) k dX1_init_35 (by decide) ?_
        exact ih (i + 1) _ (by omega) (by omega) ⟨(gup_ne _ _ (by omega)).trans hI.1, gup_self _ _ _, fun q hq => (gup_ne _ _ (by omega)).trans (hI.2.2 q hq)⟩
  exact lp (2 ^ dd + 1) 0 G1 (by omega) (by omega) ⟨ha0, ha1, haf⟩
