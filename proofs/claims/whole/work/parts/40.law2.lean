def R_law : String := "ExtendStoreLaw"
def lw_P (b : Addr) (xs : List Int32) (args : Array Value) (s : State) : Prop := args = #[.ref b] ∧ s.IntsAt b xs ∧ xs.length ≤ 1538 ∧ (Jvm.Cond.and given_1 narrow_1).before args s = true
def lw_Q (_ : Array Value) (s : State) (o : Outcome) (t : State) : Prop := o = .returned (some (.int 1)) ∧ Framed s o t [] 600000 7302250
def lw_Z (below : List Frame) (a : Array Value) (s : State) : State → Prop := fun t => ∃ o, t.status = .running ∧ Ended t below o ∧ lw_Q a s o t
/-- the law's own end, with 1 on the stack, nothing written that was there before, its room as the claim has it -/
theorem lw_ret {p : Program} {l : Launch} {e : Env} {s : State} {m : MethodId} {below : List Frame} {meth : Method} {c : Code} {b : Nat} (hx : p.tables.exec = Jvm.exec) (hb : c.code = code) (hr : meth.sig.returnType = ret) (hlocks : meth.locks = false) {pc : Nat} {H : Heap} {ls : Array Slot} (hdg : decode code pc = .ok (.ireturn, 1)) : W p l e room_1 s m #[Value.ref b] below meth c H [] 600000 7302250 (lw_Z below #[Value.ref b] s) (F0 m pc ls [.int 1]) := by
  intro T hT X
  obtain ⟨fs, hret, hrun, hended, hW, hframe⟩ := X.leave (v := some (.int 1)) (hlocks := hlocks) (fun h => by rw [hr] at h; cases h)
  have hmeth' : T.vm.method? m = some meth := X.method'
  refine ⟨T.setFrames fs, ?_, .returned (some (.int 1)), hrun, hended, rfl, ⟨_, rfl⟩, hW, hframe⟩
  jvm_step X.here [X.here.top, hx, hb, hdg, hmeth', hr, ret, narrow_b1]
  (try refine ⟨rfl, ?_⟩); (try refine ⟨rfl, ?_⟩)
  first | (intro acts; rw [hret _ acts rfl rfl rfl]) | rw [hret _ _ rfl rfl rfl]
  exact Steps.refl _
/-- what holds at the law's entry: the machine, the code, the tables' words (any of lw_tbl by 'hts w (by decide +kernel)'), the script of L ints xs at the cell b, what the Statement gives of the start (any of its parts by flat_of_before) -/
def lw_At (p : Program) (s : State) (m : MethodId) (meth : Method) (c : Code) (b L : Nat) (xs : Nat → Int32) : Prop :=
  p.tables.exec = Jvm.exec ∧ c.code = code ∧ meth.sig.returnType = ret ∧ c.maxLocals = 4 ∧ s.vm.findClass R_law = some m.cls ∧ (∀ w ∈ lw_tbl, w.before #[Value.ref b] s = true) ∧ va_X b L xs s s.heap ∧ b < s.heap.size ∧ meth.locks = false ∧ (Jvm.Cond.and given_1 narrow_1).before #[Value.ref b] s = true
theorem gt_law {i L : Nat} (hi : i < 2 ^ 30) (hL : L < 2 ^ 30) : nI L - nI 3 < nI i ↔ L < i + 3 := by
  by_cases h : 3 ≤ L
  · rw [pk_sub h, nI_ltI (by omega) (by omega)]
    omega
  · have hp : nI L - nI 3 < 0 := by
      rcases (show L = 0 ∨ L = 1 ∨ L = 2 by omega) with rfl | rfl | rfl <;> decide +kernel
    constructor
    · intro _; omega
    · intro _; exact Int32.lt_of_lt_of_le hp (Int32.not_lt.mp (nI_pos (by omega)))
theorem INVM.mono {c c' y sz : Nat} {M G : Pic} {F : Nat → Nat} {K : Nat → Nat → Int32} {N : Nat → Nat → Nat} {Z : Nat → Nat → Bool} (h : INVM c y sz M F K N Z G) (hc : c ≤ c') : INVM c' y sz M F K N Z G := by
  obtain ⟨A, S, R, DB, T, BI, BD, P, hC, hR⟩ := h
  exact ⟨A, S, R, DB, T, BI, BD, P, hC, hR.mono hc⟩
theorem V.lawret {p : Program} {l : Launch} {e : Env} {s : State} {m : MethodId} {below : List Frame} {meth : Method} {c : Code} {b : Nat} {w : Wd} {G : Pic} {sz cells slots : Nat} {L : List (Option Value)} (hx : p.tables.exec = Jvm.exec) (hb : c.code = code) (hr : meth.sig.returnType = ret) (hlocks : meth.locks = false) (hw : w.2.2 = s.heap.size) (hc : cells ≤ 600000) (hs : slots ≤ 7302250) : V p l e room_1 s m #[Value.ref b] below meth c w G sz cells slots (lw_Z below #[Value.ref b] s) 391 L [.int (nI 1)] := fun H locs ls X y q => by
  refine va_forget (fun z hz => ?_) (W.widen hc hs (lw_ret hx hb hr hlocks dL_law_391))
  have h1 : w.2.2 ≤ z.base := y.2.2 z hz
  rw [hw] at h1
  exact h1
set_option maxHeartbeats 4000000 in
set_option maxRecDepth 100000 in
/-- the law's loop -/
theorem law_loop {p : Program} {l : Launch} {e : Env} {s : State} {m : MethodId} {below : List Frame} {meth : Method} {c : Code} {b L0 y : Nat} {xs : Nat → Int32} {w : Wd} (hL : L0 ≤ 1538) (k : Ok p s m #[Value.ref b] c w code 4 RL lw_tbl) (hr : meth.sig.returnType = ret) (hlocks : meth.locks = false) (hX : va_X b L0 xs s s.heap) (hbl : b < s.heap.size) (hw : w.2.2 = s.heap.size) : ∀ (nq q i sz : Nat) (F : Nat → Nat) (K : Nat → Nat → Int32) (N : Nat → Nat → Nat) (Z : Nat → Nat → Bool) (G0 G : Pic), i = 2 + 3 * q → q ≤ 512 → L0 + 1 - i < nq → INVM q y sz (mset (y + 15) F K N Z G0) F K N Z G → V p l e room_1 s m #[Value.ref b] below meth c w G sz (26 + 51 * q) (14898 + 595 * q) (lw_Z below #[Value.ref b] s) 38 [some (.ref (b)), some (.ref (y)), some (.ref (y + 15)), some (.int (nI (i)))] [] := by
  have hbw : b < w.2.2 := by rw [hw]; exact hbl
  intro nq
  induction nq with
  | zero => intro q i sz F K N Z G0 G h1 h2 h3 hI; omega
  | succ nq ih =>
    intro q i sz F K N Z G0 G h1 h2 h3 hI
    refine V.iload_n k dL_law_38 rfl ?_
    refine V.aload_n k dL_law_39 rfl ?_
    refine V.slen k dL_law_40 hX hbl hbw ?_
    refine V.iconst (v := nI 3) k dL_law_41 (by decide) ?_
    refine V.isub (v := (nI L0 - nI 3)) k dL_law_42 (rfl) ?_
    refine V.icmp_gt (tgt := 390) k dL_law_43 (by decide) (fun hg => ?_) (fun hg => ?_)
    · refine V.iconst (v := nI 1) k dL_law_390 (by decide) ?_
      exact V.lawret k.1.1 k.1.2.1 hr hlocks hw (by omega) (by omega)
    · have hi3 : i + 3 ≤ L0 := by
        have h9 := gt_law (i := i) (L := L0) (by omega) (by omega)
        have h10 : ¬ L0 < i + 3 := fun z => hg (h9.mpr z)
        omega
      obtain ⟨fs, hfs⟩ := hI.x
      refine V.aload_n k dL_law_46 rfl ?_
      refine V.iload_n k dL_law_47 rfl ?_
      refine V.sld k dL_law_48 hX hbl hbw (j := i) rfl (by omega) (by omega) ?_
      refine V.bipush (v := nI 15) k dL_law_49 (by decide) ?_
      refine V.iand (v := (nI (tn (xs i) % 16))) k dL_law_51 (andm (xs i) (b := 4) (by omega)) ?_
      have h16 : tn (xs i) % 16 < 16 := Nat.mod_lt _ (by omega)
      generalize tn (xs i) % 16 = t at h16 ⊢
      rcases (show t = 0 ∨ t = 1 ∨ t = 2 ∨ t = 3 ∨ t = 4 ∨ t = 5 ∨ t = 6 ∨ t = 7 ∨ t = 8 ∨ t = 9 ∨ t = 10 ∨ t = 11 ∨ t = 12 ∨ t = 13 ∨ t = 14 ∨ t = 15 by omega) with rfl | rfl | rfl | rfl | rfl | rfl | rfl | rfl | rfl | rfl | rfl | rfl | rfl | rfl | rfl | rfl
      · refine V.tableIn (tgt := 124) k dL_law_52 (by decide +kernel) (by decide +kernel) (show _ = some (72) by decide +kernel) (by decide) ?_
        refine V.aload_n k dL_law_124 rfl ?_
        obtain ⟨a, F1, K1, N1, Z1, h5, h6⟩ := pair_format l w  hI (by omega)
        refine V.callV (As := []) (ci := 2) k dL_law_125 h5 (goodIn_tb gL_law_X2_format wsL_law_in) rfl rfl hfs ⟨rfl, hd_X2_format⟩ ⟨⟨Nat.le_of_ble_eq_true rfl, Nat.le_of_ble_eq_true rfl⟩, (show 26 + 51 * q + 3 ≤ 600000 by omega), (show 14898 + 595 * q + 35 ≤ 7302250 by omega)⟩ rfl rfl rfl (Nat.le_of_ble_eq_true rfl) (fun v1 G1 sz1 hp1 => ?_)
        obtain ⟨rfl, hz1, hI1⟩ := hp1
        refine V.stk (st' := [.int (a)]) rfl ?_
        refine V.pic hI1.ms ?_
        refine V.aload_n k dL_law_128 rfl ?_
        refine V.cV (As := []) (ci := 3) (st1 := [.int (a), .int (a)]) k dL_law_129 (h6 (y + 15) sz1 G1) (goodIn_tb gL_law_X3_format wsL_law_in) rfl rfl (ms_o _ _ _ _ _ _) ⟨rfl, hd_X3_format⟩ ⟨⟨Nat.le_of_ble_eq_true rfl, Nat.le_of_ble_eq_true rfl⟩, (show 26 + 51 * q + 3 + 0 ≤ 600000 by omega), (show 14898 + 595 * q + 35 + 0 ≤ 7302250 by omega)⟩ rfl rfl rfl (Nat.le_of_ble_eq_true rfl) rfl ?_
        refine V.icmp_eq (tgt := 384) k dL_law_132 (by decide) (fun _ => ?_) (fun hne => absurd rfl hne)
        refine V.iinc (x := (nI (i))) (v := (nI (i + 3))) (L' := [some (.ref (b)), some (.ref (y)), some (.ref (y + 15)), some (.int (nI (i + 3)))]) k dL_law_384 rfl (nI_inc3 _) rfl ?_
        refine V.goto (tgt := 38) k dL_law_387 (by decide) ?_
        refine V.widen (k := 26 + 51 * (q + 1)) (n := 14898 + 595 * (q + 1)) (show 26 + 51 * q + 3 + 0 ≤ 26 + 51 * (q + 1) by omega) (show 14898 + 595 * q + 35 + 0 ≤ 14898 + 595 * (q + 1) by omega) ?_
        exact ih (q + 1) (i + 3) sz1 F1 K1 N1 Z1 G1 _ (by omega) (by omega) (by omega) (hI1.swap)
      · refine V.tableIn (tgt := 137) k dL_law_52 (by decide +kernel) (by decide +kernel) (show _ = some (85) by decide +kernel) (by decide) ?_
        refine V.aload_n k dL_law_137 rfl ?_
        refine V.aload_n k dL_law_138 rfl ?_
        refine V.iload_n k dL_law_139 rfl ?_
        refine V.iconst (v := nI 1) k dL_law_140 (by decide) ?_
        refine V.iadd (v := (nI (i + 1))) k dL_law_141 (nI_add _ _) ?_
        refine V.sld k dL_law_142 hX hbl hbw (j := i + 1) rfl (by omega) (by omega) ?_
        refine V.aload_n k dL_law_143 rfl ?_
        refine V.iload_n k dL_law_144 rfl ?_
        refine V.iconst (v := nI 2) k dL_law_145 (by decide) ?_
        refine V.iadd (v := (nI (i + 2))) k dL_law_146 (nI_add _ _) ?_
        refine V.sld k dL_law_147 hX hbl hbw (j := i + 2) rfl (by omega) (by omega) ?_
        obtain ⟨a, F1, K1, N1, Z1, h5, h6⟩ := pair_put l w (xs (i + 1)) (xs (i + 2)) hI (by omega)
        refine V.callV (As := [.int (xs (i + 1)), .int (xs (i + 2))]) (ci := 2) k dL_law_148 h5 (goodIn_tb gL_law_X2_put wsL_law_in) rfl rfl hfs ⟨rfl, hd_X2_put⟩ ⟨⟨Nat.le_of_ble_eq_true rfl, Nat.le_of_ble_eq_true rfl⟩, (show 26 + 51 * q + 51 ≤ 600000 by omega), (show 14898 + 595 * q + 595 ≤ 7302250 by omega)⟩ rfl rfl rfl (Nat.le_of_ble_eq_true rfl) (fun v1 G1 sz1 hp1 => ?_)
        obtain ⟨rfl, hz1, hI1⟩ := hp1
        refine V.stk (st' := [.int (a)]) rfl ?_
        refine V.pic hI1.ms ?_
        refine V.aload_n k dL_law_151 rfl ?_
        refine V.aload_n k dL_law_152 rfl ?_
        refine V.iload_n k dL_law_153 rfl ?_
        refine V.iconst (v := nI 1) k dL_law_154 (by decide) ?_
        refine V.iadd (v := (nI (i + 1))) k dL_law_155 (nI_add _ _) ?_
        refine V.sld k dL_law_156 hX hbl hbw (j := i + 1) rfl (by omega) (by omega) ?_
        refine V.aload_n k dL_law_157 rfl ?_
        refine V.iload_n k dL_law_158 rfl ?_
        refine V.iconst (v := nI 2) k dL_law_159 (by decide) ?_
        refine V.iadd (v := (nI (i + 2))) k dL_law_160 (nI_add _ _) ?_
        refine V.sld k dL_law_161 hX hbl hbw (j := i + 2) rfl (by omega) (by omega) ?_
        refine V.cV (As := [.int (xs (i + 1)), .int (xs (i + 2))]) (ci := 3) (st1 := [.int (a), .int (a)]) k dL_law_162 (h6 (y + 15) sz1 G1) (goodIn_tb gL_law_X3_put wsL_law_in) rfl rfl (ms_o _ _ _ _ _ _) ⟨rfl, hd_X3_put⟩ ⟨⟨Nat.le_of_ble_eq_true rfl, Nat.le_of_ble_eq_true rfl⟩, (show 26 + 51 * q + 51 + 0 ≤ 600000 by omega), (show 14898 + 595 * q + 595 + 0 ≤ 7302250 by omega)⟩ rfl rfl rfl (Nat.le_of_ble_eq_true rfl) rfl ?_
        refine V.icmp_eq (tgt := 384) k dL_law_165 (by decide) (fun _ => ?_) (fun hne => absurd rfl hne)
        refine V.iinc (x := (nI (i))) (v := (nI (i + 3))) (L' := [some (.ref (b)), some (.ref (y)), some (.ref (y + 15)), some (.int (nI (i + 3)))]) k dL_law_384 rfl (nI_inc3 _) rfl ?_
        refine V.goto (tgt := 38) k dL_law_387 (by decide) ?_
        refine V.widen (k := 26 + 51 * (q + 1)) (n := 14898 + 595 * (q + 1)) (show 26 + 51 * q + 51 + 0 ≤ 26 + 51 * (q + 1) by omega) (show 14898 + 595 * q + 595 + 0 ≤ 14898 + 595 * (q + 1) by omega) ?_
        exact ih (q + 1) (i + 3) sz1 F1 K1 N1 Z1 G1 _ (by omega) (by omega) (by omega) (hI1.swap)
      · refine V.tableIn (tgt := 170) k dL_law_52 (by decide +kernel) (by decide +kernel) (show _ = some (118) by decide +kernel) (by decide) ?_
        refine V.aload_n k dL_law_170 rfl ?_
        refine V.aload_n k dL_law_171 rfl ?_
        refine V.iload_n k dL_law_172 rfl ?_
        refine V.iconst (v := nI 1) k dL_law_173 (by decide) ?_
        refine V.iadd (v := (nI (i + 1))) k dL_law_174 (nI_add _ _) ?_
        refine V.sld k dL_law_175 hX hbl hbw (j := i + 1) rfl (by omega) (by omega) ?_
        obtain ⟨a, F1, K1, N1, Z1, h5, h6⟩ := pair_get l w (xs (i + 1)) hI (by omega)
        refine V.callV (As := [.int (xs (i + 1))]) (ci := 2) k dL_law_176 h5 (goodIn_tb gL_law_X2_get wsL_law_in) rfl rfl hfs ⟨rfl, hd_X2_get⟩ ⟨⟨Nat.le_of_ble_eq_true rfl, Nat.le_of_ble_eq_true rfl⟩, (show 26 + 51 * q + 0 ≤ 600000 by omega), (show 14898 + 595 * q + 0 ≤ 7302250 by omega)⟩ rfl rfl rfl (Nat.le_of_ble_eq_true rfl) (fun v1 G1 sz1 hp1 => ?_)
        obtain ⟨rfl, hz1, hI1⟩ := hp1
        refine V.stk (st' := [.int (a)]) rfl ?_
        refine V.pic hI1.ms ?_
        refine V.aload_n k dL_law_179 rfl ?_
        refine V.aload_n k dL_law_180 rfl ?_
        refine V.iload_n k dL_law_181 rfl ?_
        refine V.iconst (v := nI 1) k dL_law_182 (by decide) ?_
        refine V.iadd (v := (nI (i + 1))) k dL_law_183 (nI_add _ _) ?_
        refine V.sld k dL_law_184 hX hbl hbw (j := i + 1) rfl (by omega) (by omega) ?_
        refine V.cV (As := [.int (xs (i + 1))]) (ci := 3) (st1 := [.int (a), .int (a)]) k dL_law_185 (h6 (y + 15) sz1 G1) (goodIn_tb gL_law_X3_get wsL_law_in) rfl rfl (ms_o _ _ _ _ _ _) ⟨rfl, hd_X3_get⟩ ⟨⟨Nat.le_of_ble_eq_true rfl, Nat.le_of_ble_eq_true rfl⟩, (show 26 + 51 * q + 0 + 0 ≤ 600000 by omega), (show 14898 + 595 * q + 0 + 0 ≤ 7302250 by omega)⟩ rfl rfl rfl (Nat.le_of_ble_eq_true rfl) rfl ?_
        refine V.icmp_eq (tgt := 384) k dL_law_188 (by decide) (fun _ => ?_) (fun hne => absurd rfl hne)
        refine V.iinc (x := (nI (i))) (v := (nI (i + 3))) (L' := [some (.ref (b)), some (.ref (y)), some (.ref (y + 15)), some (.int (nI (i + 3)))]) k dL_law_384 rfl (nI_inc3 _) rfl ?_
        refine V.goto (tgt := 38) k dL_law_387 (by decide) ?_
        refine V.widen (k := 26 + 51 * (q + 1)) (n := 14898 + 595 * (q + 1)) (show 26 + 51 * q + 0 + 0 ≤ 26 + 51 * (q + 1) by omega) (show 14898 + 595 * q + 0 + 0 ≤ 14898 + 595 * (q + 1) by omega) ?_
        exact ih (q + 1) (i + 3) sz1 F1 K1 N1 Z1 G1 _ (by omega) (by omega) (by omega) (hI1.swap)
      · refine V.tableIn (tgt := 193) k dL_law_52 (by decide +kernel) (by decide +kernel) (show _ = some (141) by decide +kernel) (by decide) ?_
        refine V.aload_n k dL_law_193 rfl ?_
        refine V.aload_n k dL_law_194 rfl ?_
        refine V.iload_n k dL_law_195 rfl ?_
        refine V.iconst (v := nI 1) k dL_law_196 (by decide) ?_
        refine V.iadd (v := (nI (i + 1))) k dL_law_197 (nI_add _ _) ?_
        refine V.sld k dL_law_198 hX hbl hbw (j := i + 1) rfl (by omega) (by omega) ?_
        obtain ⟨a, F1, K1, N1, Z1, h5, h6⟩ := pair_has l w (xs (i + 1)) hI (by omega)
        refine V.callV (As := [.int (xs (i + 1))]) (ci := 2) k dL_law_199 h5 (goodIn_tb gL_law_X2_has wsL_law_in) rfl rfl hfs ⟨rfl, hd_X2_has⟩ ⟨⟨Nat.le_of_ble_eq_true rfl, Nat.le_of_ble_eq_true rfl⟩, (show 26 + 51 * q + 0 ≤ 600000 by omega), (show 14898 + 595 * q + 0 ≤ 7302250 by omega)⟩ rfl rfl rfl (Nat.le_of_ble_eq_true rfl) (fun v1 G1 sz1 hp1 => ?_)
        obtain ⟨rfl, hz1, hI1⟩ := hp1
        refine V.stk (st' := [.int (a)]) rfl ?_
        refine V.pic hI1.ms ?_
        refine V.aload_n k dL_law_202 rfl ?_
        refine V.aload_n k dL_law_203 rfl ?_
        refine V.iload_n k dL_law_204 rfl ?_
        refine V.iconst (v := nI 1) k dL_law_205 (by decide) ?_
        refine V.iadd (v := (nI (i + 1))) k dL_law_206 (nI_add _ _) ?_
        refine V.sld k dL_law_207 hX hbl hbw (j := i + 1) rfl (by omega) (by omega) ?_
        refine V.cV (As := [.int (xs (i + 1))]) (ci := 3) (st1 := [.int (a), .int (a)]) k dL_law_208 (h6 (y + 15) sz1 G1) (goodIn_tb gL_law_X3_has wsL_law_in) rfl rfl (ms_o _ _ _ _ _ _) ⟨rfl, hd_X3_has⟩ ⟨⟨Nat.le_of_ble_eq_true rfl, Nat.le_of_ble_eq_true rfl⟩, (show 26 + 51 * q + 0 + 0 ≤ 600000 by omega), (show 14898 + 595 * q + 0 + 0 ≤ 7302250 by omega)⟩ rfl rfl rfl (Nat.le_of_ble_eq_true rfl) rfl ?_
        refine V.icmp_eq (tgt := 384) k dL_law_211 (by decide) (fun _ => ?_) (fun hne => absurd rfl hne)
        refine V.iinc (x := (nI (i))) (v := (nI (i + 3))) (L' := [some (.ref (b)), some (.ref (y)), some (.ref (y + 15)), some (.int (nI (i + 3)))]) k dL_law_384 rfl (nI_inc3 _) rfl ?_
        refine V.goto (tgt := 38) k dL_law_387 (by decide) ?_
        refine V.widen (k := 26 + 51 * (q + 1)) (n := 14898 + 595 * (q + 1)) (show 26 + 51 * q + 0 + 0 ≤ 26 + 51 * (q + 1) by omega) (show 14898 + 595 * q + 0 + 0 ≤ 14898 + 595 * (q + 1) by omega) ?_
        exact ih (q + 1) (i + 3) sz1 F1 K1 N1 Z1 G1 _ (by omega) (by omega) (by omega) (hI1.swap)
      · refine V.tableIn (tgt := 216) k dL_law_52 (by decide +kernel) (by decide +kernel) (show _ = some (164) by decide +kernel) (by decide) ?_
        refine V.aload_n k dL_law_216 rfl ?_
        refine V.aload_n k dL_law_217 rfl ?_
        refine V.iload_n k dL_law_218 rfl ?_
        refine V.iconst (v := nI 1) k dL_law_219 (by decide) ?_
        refine V.iadd (v := (nI (i + 1))) k dL_law_220 (nI_add _ _) ?_
        refine V.sld k dL_law_221 hX hbl hbw (j := i + 1) rfl (by omega) (by omega) ?_
        obtain ⟨a, F1, K1, N1, Z1, h5, h6⟩ := pair_remove l w (xs (i + 1)) hI (by omega)
        refine V.callV (As := [.int (xs (i + 1))]) (ci := 2) k dL_law_222 h5 (goodIn_tb gL_law_X2_remove wsL_law_in) rfl rfl hfs ⟨rfl, hd_X2_remove⟩ ⟨⟨Nat.le_of_ble_eq_true rfl, Nat.le_of_ble_eq_true rfl⟩, (show 26 + 51 * q + 27 ≤ 600000 by omega), (show 14898 + 595 * q + 315 ≤ 7302250 by omega)⟩ rfl rfl rfl (Nat.le_of_ble_eq_true rfl) (fun v1 G1 sz1 hp1 => ?_)
        obtain ⟨rfl, hz1, hI1⟩ := hp1
        refine V.stk (st' := [.int (a)]) rfl ?_
        refine V.pic hI1.ms ?_
        refine V.aload_n k dL_law_225 rfl ?_
        refine V.aload_n k dL_law_226 rfl ?_
        refine V.iload_n k dL_law_227 rfl ?_
        refine V.iconst (v := nI 1) k dL_law_228 (by decide) ?_
        refine V.iadd (v := (nI (i + 1))) k dL_law_229 (nI_add _ _) ?_
        refine V.sld k dL_law_230 hX hbl hbw (j := i + 1) rfl (by omega) (by omega) ?_
        refine V.cV (As := [.int (xs (i + 1))]) (ci := 3) (st1 := [.int (a), .int (a)]) k dL_law_231 (h6 (y + 15) sz1 G1) (goodIn_tb gL_law_X3_remove wsL_law_in) rfl rfl (ms_o _ _ _ _ _ _) ⟨rfl, hd_X3_remove⟩ ⟨⟨Nat.le_of_ble_eq_true rfl, Nat.le_of_ble_eq_true rfl⟩, (show 26 + 51 * q + 27 + 0 ≤ 600000 by omega), (show 14898 + 595 * q + 315 + 0 ≤ 7302250 by omega)⟩ rfl rfl rfl (Nat.le_of_ble_eq_true rfl) rfl ?_
        refine V.icmp_eq (tgt := 384) k dL_law_234 (by decide) (fun _ => ?_) (fun hne => absurd rfl hne)
        refine V.iinc (x := (nI (i))) (v := (nI (i + 3))) (L' := [some (.ref (b)), some (.ref (y)), some (.ref (y + 15)), some (.int (nI (i + 3)))]) k dL_law_384 rfl (nI_inc3 _) rfl ?_
        refine V.goto (tgt := 38) k dL_law_387 (by decide) ?_
        refine V.widen (k := 26 + 51 * (q + 1)) (n := 14898 + 595 * (q + 1)) (show 26 + 51 * q + 27 + 0 ≤ 26 + 51 * (q + 1) by omega) (show 14898 + 595 * q + 315 + 0 ≤ 14898 + 595 * (q + 1) by omega) ?_
        exact ih (q + 1) (i + 3) sz1 F1 K1 N1 Z1 G1 _ (by omega) (by omega) (by omega) (hI1.swap)
      · refine V.tableIn (tgt := 239) k dL_law_52 (by decide +kernel) (by decide +kernel) (show _ = some (187) by decide +kernel) (by decide) ?_
        refine V.aload_n k dL_law_239 rfl ?_
        obtain ⟨a, F1, K1, N1, Z1, h5, h6⟩ := pair_size l w  hI (by omega)
        refine V.callV (As := []) (ci := 2) k dL_law_240 h5 (goodIn_tb gL_law_X2_size wsL_law_in) rfl rfl hfs ⟨rfl, hd_X2_size⟩ ⟨⟨Nat.le_of_ble_eq_true rfl, Nat.le_of_ble_eq_true rfl⟩, (show 26 + 51 * q + 0 ≤ 600000 by omega), (show 14898 + 595 * q + 0 ≤ 7302250 by omega)⟩ rfl rfl rfl (Nat.le_of_ble_eq_true rfl) (fun v1 G1 sz1 hp1 => ?_)
        obtain ⟨rfl, hz1, hI1⟩ := hp1
        refine V.stk (st' := [.int (a)]) rfl ?_
        refine V.pic hI1.ms ?_
        refine V.aload_n k dL_law_243 rfl ?_
        refine V.cV (As := []) (ci := 3) (st1 := [.int (a), .int (a)]) k dL_law_244 (h6 (y + 15) sz1 G1) (goodIn_tb gL_law_X3_size wsL_law_in) rfl rfl (ms_o _ _ _ _ _ _) ⟨rfl, hd_X3_size⟩ ⟨⟨Nat.le_of_ble_eq_true rfl, Nat.le_of_ble_eq_true rfl⟩, (show 26 + 51 * q + 0 + 0 ≤ 600000 by omega), (show 14898 + 595 * q + 0 + 0 ≤ 7302250 by omega)⟩ rfl rfl rfl (Nat.le_of_ble_eq_true rfl) rfl ?_
        refine V.icmp_eq (tgt := 384) k dL_law_247 (by decide) (fun _ => ?_) (fun hne => absurd rfl hne)
        refine V.iinc (x := (nI (i))) (v := (nI (i + 3))) (L' := [some (.ref (b)), some (.ref (y)), some (.ref (y + 15)), some (.int (nI (i + 3)))]) k dL_law_384 rfl (nI_inc3 _) rfl ?_
        refine V.goto (tgt := 38) k dL_law_387 (by decide) ?_
        refine V.widen (k := 26 + 51 * (q + 1)) (n := 14898 + 595 * (q + 1)) (show 26 + 51 * q + 0 + 0 ≤ 26 + 51 * (q + 1) by omega) (show 14898 + 595 * q + 0 + 0 ≤ 14898 + 595 * (q + 1) by omega) ?_
        exact ih (q + 1) (i + 3) sz1 F1 K1 N1 Z1 G1 _ (by omega) (by omega) (by omega) (hI1.swap)
      · refine V.tableIn (tgt := 252) k dL_law_52 (by decide +kernel) (by decide +kernel) (show _ = some (200) by decide +kernel) (by decide) ?_
        refine V.aload_n k dL_law_252 rfl ?_
        obtain ⟨a, F1, K1, N1, Z1, h5, h6⟩ := pair_depth l w  hI (by omega)
        refine V.callV (As := []) (ci := 2) k dL_law_253 h5 (goodIn_tb gL_law_X2_depth wsL_law_in) rfl rfl hfs ⟨rfl, hd_X2_depth⟩ ⟨⟨Nat.le_of_ble_eq_true rfl, Nat.le_of_ble_eq_true rfl⟩, (show 26 + 51 * q + 0 ≤ 600000 by omega), (show 14898 + 595 * q + 0 ≤ 7302250 by omega)⟩ rfl rfl rfl (Nat.le_of_ble_eq_true rfl) (fun v1 G1 sz1 hp1 => ?_)
        obtain ⟨rfl, hz1, hI1⟩ := hp1
        refine V.stk (st' := [.int (a)]) rfl ?_
        refine V.pic hI1.ms ?_
        refine V.aload_n k dL_law_256 rfl ?_
        refine V.cV (As := []) (ci := 3) (st1 := [.int (a), .int (a)]) k dL_law_257 (h6 (y + 15) sz1 G1) (goodIn_tb gL_law_X3_depth wsL_law_in) rfl rfl (ms_o _ _ _ _ _ _) ⟨rfl, hd_X3_depth⟩ ⟨⟨Nat.le_of_ble_eq_true rfl, Nat.le_of_ble_eq_true rfl⟩, (show 26 + 51 * q + 0 + 0 ≤ 600000 by omega), (show 14898 + 595 * q + 0 + 0 ≤ 7302250 by omega)⟩ rfl rfl rfl (Nat.le_of_ble_eq_true rfl) rfl ?_
        refine V.icmp_eq (tgt := 384) k dL_law_260 (by decide) (fun _ => ?_) (fun hne => absurd rfl hne)
        refine V.iinc (x := (nI (i))) (v := (nI (i + 3))) (L' := [some (.ref (b)), some (.ref (y)), some (.ref (y + 15)), some (.int (nI (i + 3)))]) k dL_law_384 rfl (nI_inc3 _) rfl ?_
        refine V.goto (tgt := 38) k dL_law_387 (by decide) ?_
        refine V.widen (k := 26 + 51 * (q + 1)) (n := 14898 + 595 * (q + 1)) (show 26 + 51 * q + 0 + 0 ≤ 26 + 51 * (q + 1) by omega) (show 14898 + 595 * q + 0 + 0 ≤ 14898 + 595 * (q + 1) by omega) ?_
        exact ih (q + 1) (i + 3) sz1 F1 K1 N1 Z1 G1 _ (by omega) (by omega) (by omega) (hI1.swap)
      · refine V.tableIn (tgt := 265) k dL_law_52 (by decide +kernel) (by decide +kernel) (show _ = some (213) by decide +kernel) (by decide) ?_
        refine V.aload_n k dL_law_265 rfl ?_
        obtain ⟨a, F1, K1, N1, Z1, h5, h6⟩ := pair_buckets l w  hI (by omega)
        refine V.callV (As := []) (ci := 2) k dL_law_266 h5 (goodIn_tb gL_law_X2_buckets wsL_law_in) rfl rfl hfs ⟨rfl, hd_X2_buckets⟩ ⟨⟨Nat.le_of_ble_eq_true rfl, Nat.le_of_ble_eq_true rfl⟩, (show 26 + 51 * q + 0 ≤ 600000 by omega), (show 14898 + 595 * q + 0 ≤ 7302250 by omega)⟩ rfl rfl rfl (Nat.le_of_ble_eq_true rfl) (fun v1 G1 sz1 hp1 => ?_)
        obtain ⟨rfl, hz1, hI1⟩ := hp1
        refine V.stk (st' := [.int (a)]) rfl ?_
        refine V.pic hI1.ms ?_
        refine V.aload_n k dL_law_269 rfl ?_
        refine V.cV (As := []) (ci := 3) (st1 := [.int (a), .int (a)]) k dL_law_270 (h6 (y + 15) sz1 G1) (goodIn_tb gL_law_X3_buckets wsL_law_in) rfl rfl (ms_o _ _ _ _ _ _) ⟨rfl, hd_X3_buckets⟩ ⟨⟨Nat.le_of_ble_eq_true rfl, Nat.le_of_ble_eq_true rfl⟩, (show 26 + 51 * q + 0 + 0 ≤ 600000 by omega), (show 14898 + 595 * q + 0 + 0 ≤ 7302250 by omega)⟩ rfl rfl rfl (Nat.le_of_ble_eq_true rfl) rfl ?_
        refine V.icmp_eq (tgt := 384) k dL_law_273 (by decide) (fun _ => ?_) (fun hne => absurd rfl hne)
        refine V.iinc (x := (nI (i))) (v := (nI (i + 3))) (L' := [some (.ref (b)), some (.ref (y)), some (.ref (y + 15)), some (.int (nI (i + 3)))]) k dL_law_384 rfl (nI_inc3 _) rfl ?_
        refine V.goto (tgt := 38) k dL_law_387 (by decide) ?_
        refine V.widen (k := 26 + 51 * (q + 1)) (n := 14898 + 595 * (q + 1)) (show 26 + 51 * q + 0 + 0 ≤ 26 + 51 * (q + 1) by omega) (show 14898 + 595 * q + 0 + 0 ≤ 14898 + 595 * (q + 1) by omega) ?_
        exact ih (q + 1) (i + 3) sz1 F1 K1 N1 Z1 G1 _ (by omega) (by omega) (by omega) (hI1.swap)
      · refine V.tableIn (tgt := 278) k dL_law_52 (by decide +kernel) (by decide +kernel) (show _ = some (226) by decide +kernel) (by decide) ?_
        refine V.aload_n k dL_law_278 rfl ?_
        obtain ⟨a, F1, K1, N1, Z1, h5, h6⟩ := pair_sync l w  hI (by omega)
        refine V.callV (As := []) (ci := 2) k dL_law_279 h5 (goodIn_tb gL_law_X2_sync wsL_law_in) rfl rfl hfs ⟨rfl, hd_X2_sync⟩ ⟨⟨Nat.le_of_ble_eq_true rfl, Nat.le_of_ble_eq_true rfl⟩, (show 26 + 51 * q + 0 ≤ 600000 by omega), (show 14898 + 595 * q + 0 ≤ 7302250 by omega)⟩ rfl rfl rfl (Nat.le_of_ble_eq_true rfl) (fun v1 G1 sz1 hp1 => ?_)
        obtain ⟨rfl, hz1, hI1⟩ := hp1
        refine V.stk (st' := [.int (a)]) rfl ?_
        refine V.pic hI1.ms ?_
        refine V.aload_n k dL_law_282 rfl ?_
        refine V.cV (As := []) (ci := 3) (st1 := [.int (a), .int (a)]) k dL_law_283 (h6 (y + 15) sz1 G1) (goodIn_tb gL_law_X3_sync wsL_law_in) rfl rfl (ms_o _ _ _ _ _ _) ⟨rfl, hd_X3_sync⟩ ⟨⟨Nat.le_of_ble_eq_true rfl, Nat.le_of_ble_eq_true rfl⟩, (show 26 + 51 * q + 0 + 0 ≤ 600000 by omega), (show 14898 + 595 * q + 0 + 0 ≤ 7302250 by omega)⟩ rfl rfl rfl (Nat.le_of_ble_eq_true rfl) rfl ?_
        refine V.icmp_eq (tgt := 384) k dL_law_286 (by decide) (fun _ => ?_) (fun hne => absurd rfl hne)
        refine V.iinc (x := (nI (i))) (v := (nI (i + 3))) (L' := [some (.ref (b)), some (.ref (y)), some (.ref (y + 15)), some (.int (nI (i + 3)))]) k dL_law_384 rfl (nI_inc3 _) rfl ?_
        refine V.goto (tgt := 38) k dL_law_387 (by decide) ?_
        refine V.widen (k := 26 + 51 * (q + 1)) (n := 14898 + 595 * (q + 1)) (show 26 + 51 * q + 0 + 0 ≤ 26 + 51 * (q + 1) by omega) (show 14898 + 595 * q + 0 + 0 ≤ 14898 + 595 * (q + 1) by omega) ?_
        exact ih (q + 1) (i + 3) sz1 F1 K1 N1 Z1 G1 _ (by omega) (by omega) (by omega) (hI1.swap)
      · refine V.tableIn (tgt := 291) k dL_law_52 (by decide +kernel) (by decide +kernel) (show _ = some (239) by decide +kernel) (by decide) ?_
        refine V.aload_n k dL_law_291 rfl ?_
        refine V.aload_n k dL_law_292 rfl ?_
        refine V.iload_n k dL_law_293 rfl ?_
        refine V.iconst (v := nI 1) k dL_law_294 (by decide) ?_
        refine V.iadd (v := (nI (i + 1))) k dL_law_295 (nI_add _ _) ?_
        refine V.sld k dL_law_296 hX hbl hbw (j := i + 1) rfl (by omega) (by omega) ?_
        obtain ⟨F1, K1, N1, Z1, h5, h6⟩ := pair_crashAfter l w (xs (i + 1)) hI (by omega)
        refine V.callV (As := [.int (xs (i + 1))]) (ci := 2) k dL_law_297 h5 (goodIn_tb gL_law_X2_crashAfter wsL_law_in) rfl rfl hfs ⟨rfl, hd_X2_crashAfter⟩ ⟨⟨Nat.le_of_ble_eq_true rfl, Nat.le_of_ble_eq_true rfl⟩, (show 26 + 51 * q + 0 ≤ 600000 by omega), (show 14898 + 595 * q + 0 ≤ 7302250 by omega)⟩ rfl rfl rfl (Nat.le_of_ble_eq_true rfl) (fun v1 G1 sz1 hp1 => ?_)
        obtain ⟨rfl, hz1, hI1⟩ := hp1
        refine V.stk (st' := []) rfl ?_
        refine V.pic hI1.ms ?_
        refine V.aload_n k dL_law_300 rfl ?_
        refine V.aload_n k dL_law_301 rfl ?_
        refine V.iload_n k dL_law_302 rfl ?_
        refine V.iconst (v := nI 1) k dL_law_303 (by decide) ?_
        refine V.iadd (v := (nI (i + 1))) k dL_law_304 (nI_add _ _) ?_
        refine V.sld k dL_law_305 hX hbl hbw (j := i + 1) rfl (by omega) (by omega) ?_
        refine V.cV (As := [.int (xs (i + 1))]) (ci := 3) (st1 := []) k dL_law_306 (h6 (y + 15) sz1 G1) (goodIn_tb gL_law_X3_crashAfter wsL_law_in) rfl rfl (ms_o _ _ _ _ _ _) ⟨rfl, hd_X3_crashAfter⟩ ⟨⟨Nat.le_of_ble_eq_true rfl, Nat.le_of_ble_eq_true rfl⟩, (show 26 + 51 * q + 0 + 0 ≤ 600000 by omega), (show 14898 + 595 * q + 0 + 0 ≤ 7302250 by omega)⟩ rfl rfl rfl (Nat.le_of_ble_eq_true rfl) rfl ?_
        refine V.goto (tgt := 384) k dL_law_309 (by decide) ?_
        refine V.iinc (x := (nI (i))) (v := (nI (i + 3))) (L' := [some (.ref (b)), some (.ref (y)), some (.ref (y + 15)), some (.int (nI (i + 3)))]) k dL_law_384 rfl (nI_inc3 _) rfl ?_
        refine V.goto (tgt := 38) k dL_law_387 (by decide) ?_
        refine V.widen (k := 26 + 51 * (q + 1)) (n := 14898 + 595 * (q + 1)) (show 26 + 51 * q + 0 + 0 ≤ 26 + 51 * (q + 1) by omega) (show 14898 + 595 * q + 0 + 0 ≤ 14898 + 595 * (q + 1) by omega) ?_
        exact ih (q + 1) (i + 3) sz1 F1 K1 N1 Z1 G1 _ (by omega) (by omega) (by omega) (hI1.swap)
      · refine V.tableIn (tgt := 312) k dL_law_52 (by decide +kernel) (by decide +kernel) (show _ = some (260) by decide +kernel) (by decide) ?_
        refine V.aload_n k dL_law_312 rfl ?_
        obtain ⟨a, F1, K1, N1, Z1, h5, h6⟩ := pair_recover l w  hI (by omega)
        refine V.callV (As := []) (ci := 2) k dL_law_313 h5 (goodIn_tb gL_law_X2_recover wsL_law_in) rfl rfl hfs ⟨rfl, hd_X2_recover⟩ ⟨⟨Nat.le_of_ble_eq_true rfl, Nat.le_of_ble_eq_true rfl⟩, (show 26 + 51 * q + 0 ≤ 600000 by omega), (show 14898 + 595 * q + 0 ≤ 7302250 by omega)⟩ rfl rfl rfl (Nat.le_of_ble_eq_true rfl) (fun v1 G1 sz1 hp1 => ?_)
        obtain ⟨rfl, hz1, hI1⟩ := hp1
        refine V.stk (st' := [.int (a)]) rfl ?_
        refine V.pic hI1.ms ?_
        refine V.aload_n k dL_law_316 rfl ?_
        refine V.cV (As := []) (ci := 3) (st1 := [.int (a), .int (a)]) k dL_law_317 (h6 (y + 15) sz1 G1) (goodIn_tb gL_law_X3_recover wsL_law_in) rfl rfl (ms_o _ _ _ _ _ _) ⟨rfl, hd_X3_recover⟩ ⟨⟨Nat.le_of_ble_eq_true rfl, Nat.le_of_ble_eq_true rfl⟩, (show 26 + 51 * q + 0 + 0 ≤ 600000 by omega), (show 14898 + 595 * q + 0 + 0 ≤ 7302250 by omega)⟩ rfl rfl rfl (Nat.le_of_ble_eq_true rfl) rfl ?_
        refine V.icmp_eq (tgt := 384) k dL_law_320 (by decide) (fun _ => ?_) (fun hne => absurd rfl hne)
        refine V.iinc (x := (nI (i))) (v := (nI (i + 3))) (L' := [some (.ref (b)), some (.ref (y)), some (.ref (y + 15)), some (.int (nI (i + 3)))]) k dL_law_384 rfl (nI_inc3 _) rfl ?_
        refine V.goto (tgt := 38) k dL_law_387 (by decide) ?_
        refine V.widen (k := 26 + 51 * (q + 1)) (n := 14898 + 595 * (q + 1)) (show 26 + 51 * q + 0 + 0 ≤ 26 + 51 * (q + 1) by omega) (show 14898 + 595 * q + 0 + 0 ≤ 14898 + 595 * (q + 1) by omega) ?_
        exact ih (q + 1) (i + 3) sz1 F1 K1 N1 Z1 G1 _ (by omega) (by omega) (by omega) (hI1.swap)
      · refine V.tableIn (tgt := 325) k dL_law_52 (by decide +kernel) (by decide +kernel) (show _ = some (273) by decide +kernel) (by decide) ?_
        refine V.aload_n k dL_law_325 rfl ?_
        obtain ⟨a, F1, K1, N1, Z1, h5, h6⟩ := pair_writes l w  hI (by omega)
        refine V.callV (As := []) (ci := 2) k dL_law_326 h5 (goodIn_tb gL_law_X2_writes wsL_law_in) rfl rfl hfs ⟨rfl, hd_X2_writes⟩ ⟨⟨Nat.le_of_ble_eq_true rfl, Nat.le_of_ble_eq_true rfl⟩, (show 26 + 51 * q + 0 ≤ 600000 by omega), (show 14898 + 595 * q + 0 ≤ 7302250 by omega)⟩ rfl rfl rfl (Nat.le_of_ble_eq_true rfl) (fun v1 G1 sz1 hp1 => ?_)
        obtain ⟨rfl, hz1, hI1⟩ := hp1
        refine V.stk (st' := [.int (a)]) rfl ?_
        refine V.pic hI1.ms ?_
        refine V.aload_n k dL_law_329 rfl ?_
        refine V.cV (As := []) (ci := 3) (st1 := [.int (a), .int (a)]) k dL_law_330 (h6 (y + 15) sz1 G1) (goodIn_tb gL_law_X3_writes wsL_law_in) rfl rfl (ms_o _ _ _ _ _ _) ⟨rfl, hd_X3_writes⟩ ⟨⟨Nat.le_of_ble_eq_true rfl, Nat.le_of_ble_eq_true rfl⟩, (show 26 + 51 * q + 0 + 0 ≤ 600000 by omega), (show 14898 + 595 * q + 0 + 0 ≤ 7302250 by omega)⟩ rfl rfl rfl (Nat.le_of_ble_eq_true rfl) rfl ?_
        refine V.icmp_eq (tgt := 384) k dL_law_333 (by decide) (fun _ => ?_) (fun hne => absurd rfl hne)
        refine V.iinc (x := (nI (i))) (v := (nI (i + 3))) (L' := [some (.ref (b)), some (.ref (y)), some (.ref (y + 15)), some (.int (nI (i + 3)))]) k dL_law_384 rfl (nI_inc3 _) rfl ?_
        refine V.goto (tgt := 38) k dL_law_387 (by decide) ?_
        refine V.widen (k := 26 + 51 * (q + 1)) (n := 14898 + 595 * (q + 1)) (show 26 + 51 * q + 0 + 0 ≤ 26 + 51 * (q + 1) by omega) (show 14898 + 595 * q + 0 + 0 ≤ 14898 + 595 * (q + 1) by omega) ?_
        exact ih (q + 1) (i + 3) sz1 F1 K1 N1 Z1 G1 _ (by omega) (by omega) (by omega) (hI1.swap)
      · refine V.tableIn (tgt := 338) k dL_law_52 (by decide +kernel) (by decide +kernel) (show _ = some (286) by decide +kernel) (by decide) ?_
        refine V.aload_n k dL_law_338 rfl ?_
        obtain ⟨a, F1, K1, N1, Z1, h5, h6⟩ := pair_free l w  hI (by omega)
        refine V.callV (As := []) (ci := 2) k dL_law_339 h5 (goodIn_tb gL_law_X2_free wsL_law_in) rfl rfl hfs ⟨rfl, hd_X2_free⟩ ⟨⟨Nat.le_of_ble_eq_true rfl, Nat.le_of_ble_eq_true rfl⟩, (show 26 + 51 * q + 0 ≤ 600000 by omega), (show 14898 + 595 * q + 0 ≤ 7302250 by omega)⟩ rfl rfl rfl (Nat.le_of_ble_eq_true rfl) (fun v1 G1 sz1 hp1 => ?_)
        obtain ⟨rfl, hz1, hI1⟩ := hp1
        refine V.stk (st' := [.int (a)]) rfl ?_
        refine V.pic hI1.ms ?_
        refine V.aload_n k dL_law_342 rfl ?_
        refine V.cV (As := []) (ci := 3) (st1 := [.int (a), .int (a)]) k dL_law_343 (h6 (y + 15) sz1 G1) (goodIn_tb gL_law_X3_free wsL_law_in) rfl rfl (ms_o _ _ _ _ _ _) ⟨rfl, hd_X3_free⟩ ⟨⟨Nat.le_of_ble_eq_true rfl, Nat.le_of_ble_eq_true rfl⟩, (show 26 + 51 * q + 0 + 0 ≤ 600000 by omega), (show 14898 + 595 * q + 0 + 0 ≤ 7302250 by omega)⟩ rfl rfl rfl (Nat.le_of_ble_eq_true rfl) rfl ?_
        refine V.icmp_eq (tgt := 384) k dL_law_346 (by decide) (fun _ => ?_) (fun hne => absurd rfl hne)
        refine V.iinc (x := (nI (i))) (v := (nI (i + 3))) (L' := [some (.ref (b)), some (.ref (y)), some (.ref (y + 15)), some (.int (nI (i + 3)))]) k dL_law_384 rfl (nI_inc3 _) rfl ?_
        refine V.goto (tgt := 38) k dL_law_387 (by decide) ?_
        refine V.widen (k := 26 + 51 * (q + 1)) (n := 14898 + 595 * (q + 1)) (show 26 + 51 * q + 0 + 0 ≤ 26 + 51 * (q + 1) by omega) (show 14898 + 595 * q + 0 + 0 ≤ 14898 + 595 * (q + 1) by omega) ?_
        exact ih (q + 1) (i + 3) sz1 F1 K1 N1 Z1 G1 _ (by omega) (by omega) (by omega) (hI1.swap)
      · refine V.tableIn (tgt := 351) k dL_law_52 (by decide +kernel) (by decide +kernel) (show _ = some (299) by decide +kernel) (by decide) ?_
        refine V.aload_n k dL_law_351 rfl ?_
        refine V.aload_n k dL_law_352 rfl ?_
        refine V.iload_n k dL_law_353 rfl ?_
        refine V.iconst (v := nI 1) k dL_law_354 (by decide) ?_
        refine V.iadd (v := (nI (i + 1))) k dL_law_355 (nI_add _ _) ?_
        refine V.sld k dL_law_356 hX hbl hbw (j := i + 1) rfl (by omega) (by omega) ?_
        refine V.aload_n k dL_law_357 rfl ?_
        refine V.iload_n k dL_law_358 rfl ?_
        refine V.iconst (v := nI 2) k dL_law_359 (by decide) ?_
        refine V.iadd (v := (nI (i + 2))) k dL_law_360 (nI_add _ _) ?_
        refine V.sld k dL_law_361 hX hbl hbw (j := i + 2) rfl (by omega) (by omega) ?_
        obtain ⟨a, F1, K1, N1, Z1, h5, h6⟩ := pair_bucket l w (xs (i + 1)) (xs (i + 2)) hI (by omega)
        refine V.callV (As := [.int (xs (i + 1)), .int (xs (i + 2))]) (ci := 2) k dL_law_362 h5 (goodIn_tb gL_law_X2_bucket wsL_law_in) rfl rfl hfs ⟨rfl, hd_X2_bucket⟩ ⟨⟨Nat.le_of_ble_eq_true rfl, Nat.le_of_ble_eq_true rfl⟩, (show 26 + 51 * q + 0 ≤ 600000 by omega), (show 14898 + 595 * q + 0 ≤ 7302250 by omega)⟩ rfl rfl rfl (Nat.le_of_ble_eq_true rfl) (fun v1 G1 sz1 hp1 => ?_)
        obtain ⟨rfl, hz1, hI1⟩ := hp1
        refine V.stk (st' := [.int (a)]) rfl ?_
        refine V.pic hI1.ms ?_
        refine V.aload_n k dL_law_365 rfl ?_
        refine V.aload_n k dL_law_366 rfl ?_
        refine V.iload_n k dL_law_367 rfl ?_
        refine V.iconst (v := nI 1) k dL_law_368 (by decide) ?_
        refine V.iadd (v := (nI (i + 1))) k dL_law_369 (nI_add _ _) ?_
        refine V.sld k dL_law_370 hX hbl hbw (j := i + 1) rfl (by omega) (by omega) ?_
        refine V.aload_n k dL_law_371 rfl ?_
        refine V.iload_n k dL_law_372 rfl ?_
        refine V.iconst (v := nI 2) k dL_law_373 (by decide) ?_
        refine V.iadd (v := (nI (i + 2))) k dL_law_374 (nI_add _ _) ?_
        refine V.sld k dL_law_375 hX hbl hbw (j := i + 2) rfl (by omega) (by omega) ?_
        refine V.cV (As := [.int (xs (i + 1)), .int (xs (i + 2))]) (ci := 3) (st1 := [.int (a), .int (a)]) k dL_law_376 (h6 (y + 15) sz1 G1) (goodIn_tb gL_law_X3_bucket wsL_law_in) rfl rfl (ms_o _ _ _ _ _ _) ⟨rfl, hd_X3_bucket⟩ ⟨⟨Nat.le_of_ble_eq_true rfl, Nat.le_of_ble_eq_true rfl⟩, (show 26 + 51 * q + 0 + 0 ≤ 600000 by omega), (show 14898 + 595 * q + 0 + 0 ≤ 7302250 by omega)⟩ rfl rfl rfl (Nat.le_of_ble_eq_true rfl) rfl ?_
        refine V.icmp_eq (tgt := 384) k dL_law_379 (by decide) (fun _ => ?_) (fun hne => absurd rfl hne)
        refine V.iinc (x := (nI (i))) (v := (nI (i + 3))) (L' := [some (.ref (b)), some (.ref (y)), some (.ref (y + 15)), some (.int (nI (i + 3)))]) k dL_law_384 rfl (nI_inc3 _) rfl ?_
        refine V.goto (tgt := 38) k dL_law_387 (by decide) ?_
        refine V.widen (k := 26 + 51 * (q + 1)) (n := 14898 + 595 * (q + 1)) (show 26 + 51 * q + 0 + 0 ≤ 26 + 51 * (q + 1) by omega) (show 14898 + 595 * q + 0 + 0 ≤ 14898 + 595 * (q + 1) by omega) ?_
        exact ih (q + 1) (i + 3) sz1 F1 K1 N1 Z1 G1 _ (by omega) (by omega) (by omega) (hI1.swap)
      · refine V.tableOut (tgt := 384) k dL_law_52 (by decide +kernel) (by decide) ?_
        refine V.iinc (x := (nI (i))) (v := (nI (i + 3))) (L' := [some (.ref (b)), some (.ref (y)), some (.ref (y + 15)), some (.int (nI (i + 3)))]) k dL_law_384 rfl (nI_inc3 _) rfl ?_
        refine V.goto (tgt := 38) k dL_law_387 (by decide) ?_
        refine V.widen (k := 26 + 51 * (q + 1)) (n := 14898 + 595 * (q + 1)) (show 26 + 51 * q + 0 + 0 ≤ 26 + 51 * (q + 1) by omega) (show 14898 + 595 * q + 0 + 0 ≤ 14898 + 595 * (q + 1) by omega) ?_
        exact ih (q + 1) (i + 3) sz F K N Z G0 G (by omega) (by omega) (by omega) (hI.mono (by omega))
      · refine V.tableOut (tgt := 384) k dL_law_52 (by decide +kernel) (by decide) ?_
        refine V.iinc (x := (nI (i))) (v := (nI (i + 3))) (L' := [some (.ref (b)), some (.ref (y)), some (.ref (y + 15)), some (.int (nI (i + 3)))]) k dL_law_384 rfl (nI_inc3 _) rfl ?_
        refine V.goto (tgt := 38) k dL_law_387 (by decide) ?_
        refine V.widen (k := 26 + 51 * (q + 1)) (n := 14898 + 595 * (q + 1)) (show 26 + 51 * q + 0 + 0 ≤ 26 + 51 * (q + 1) by omega) (show 14898 + 595 * q + 0 + 0 ≤ 14898 + 595 * (q + 1) by omega) ?_
        exact ih (q + 1) (i + 3) sz F K N Z G0 G (by omega) (by omega) (by omega) (hI.mono (by omega))
set_option maxHeartbeats 4000000 in
set_option maxRecDepth 100000 in
theorem whole_start {p : Program} {e : Env} {s : State} {m : MethodId} {below : List Frame} {meth : Method} {c : Code} (l : Launch) (hflags : l.flags = flags0) {b L : Nat} {xs : Nat → Int32} (hL : L ≤ 1538) (C0 : lw_At p s m meth c b L xs) : W p l e room_1 s m #[Value.ref b] below meth c s.heap [] 0 0 (lw_Z below #[Value.ref b] s) (entryFrame m ([Value.ref b] : List Value).toArray 4) := by
  obtain ⟨hx, hb, hr, hml, hown, hts, hX, hbl, hlocks, hgv⟩ := C0
  obtain ⟨D, I, hK⟩ := law_wK hts
  have hN := law_nest hts
  obtain ⟨w, hwd⟩ : ∃ w : Wd, w = (D, I, s.heap.size) := ⟨_, rfl⟩
  have hwK : wK w s := by rw [hwd]; exact hK _
  have hw : w.2.2 = s.heap.size := by rw [hwd]
  have hbw : b < w.2.2 := by rw [hw]; exact hbl
  have k : Ok p s m #[Value.ref b] c w code 4 RL lw_tbl := ⟨⟨hx, hb, hml, hown, hts⟩, hwK⟩
  generalize hL0 : L = L0 at hL hX
  obtain ⟨y, hy⟩ : ∃ y, s.heap.size = y := ⟨_, rfl⟩
  rw [lg_entry_eq]
  have hA : va_S (wA w) s.heap s.heap [] := va_S.rf
  suffices hV : V p l e room_1 s m #[Value.ref b] below meth c w (fun _ => none) y 0 0 (lw_Z below #[Value.ref b] s) 0 [some (.ref b), none, none, none] [] from
    hV s.heap [] _ ⟨hy, by rw [hw, hy]; exact Nat.le_refl _, fun a e h => by cases h⟩ hA (lvP.entry [.ref b] (by simp [Value.category]) (show 1 ≤ 4 by omega))
  refine V.new (ci := 2) (N := 9) (fs := [.int (nI (0)), .int (nI (0)), .null, .null, .null, .int (nI (0)), .int (nI (0)), .int (nI (0)), .int (nI (0))]) k dL_law_0 rfl (fun w h => wsL_law_in w (inlX2 w h)) tyX2_ok (tb_in 7 (by decide +kernel)) (tb_in 8 (by decide +kernel)) (tb_in 1 (by decide +kernel)) (fun j hj => by rcases (show j = 0 ∨ j = 1 ∨ j = 2 ∨ j = 3 ∨ j = 4 ∨ j = 5 ∨ j = 6 ∨ j = 7 ∨ j = 8 by omega) with rfl | rfl | rfl | rfl | rfl | rfl | rfl | rfl | rfl <;> rfl) (Nat.le_of_ble_eq_true rfl) (Nat.le_of_ble_eq_true rfl) ?_
  refine V.dup k dL_law_3 rfl ?_
  refine V.aload_n k dL_law_4 rfl ?_
  refine V.iconst (v := nI 0) k dL_law_5 (by decide) ?_
  refine V.callSX (As := [.ref b, .int (nI 0)]) k hX hbl hbw dL_law_6 (c_L_cell l w b L0 xs _ _ 0 (by omega) (by omega)) (goodIn_tb gL_law_L_cell wsL_law_in) rfl hd_L_cell ⟨⟨Nat.le_of_ble_eq_true rfl, Nat.le_of_ble_eq_true rfl⟩, Nat.le_of_ble_eq_true rfl, Nat.le_of_ble_eq_true rfl⟩ rfl rfl rfl (Nat.le_of_ble_eq_true rfl) ?_
  refine V.aload_n k dL_law_9 rfl ?_
  refine V.iconst (v := nI 1) k dL_law_10 (by decide) ?_
  refine V.callSX (As := [.ref b, .int (nI 1)]) k hX hbl hbw dL_law_11 (c_L_cell l w b L0 xs _ _ 1 (by omega) (by omega)) (goodIn_tb gL_law_L_cell wsL_law_in) rfl hd_L_cell ⟨⟨Nat.le_of_ble_eq_true rfl, Nat.le_of_ble_eq_true rfl⟩, Nat.le_of_ble_eq_true rfl, Nat.le_of_ble_eq_true rfl⟩ rfl rfl rfl (Nat.le_of_ble_eq_true rfl) ?_
  refine V.callIN (host := "ExtendStore") (As := [.int (cellV xs L0 0), .int (cellV xs L0 1)]) k hN dL_law_14 (c_X2_init l w "ExtendStore" y (y + 1) (gup (fun _ => none) (y) (gO 2 [.int (nI (0)), .int (nI (0)), .null, .null, .null, .int (nI (0)), .int (nI (0)), .int (nI (0)), .int (nI (0))])) (cellV xs L0 0) (cellV xs L0 1) rfl (gup_self _ _ _)) (goodIn_tb gL_law_X2_init wsL_law_in) rfl (tb_in 1 (by decide +kernel)) (tb_in 9 (by decide +kernel)) (tb_in 10 (by decide +kernel)) rfl hd_X2_init ⟨⟨Nat.le_of_ble_eq_true rfl, Nat.le_of_ble_eq_true rfl⟩, Nat.le_of_ble_eq_true rfl, Nat.le_of_ble_eq_true rfl⟩ rfl rfl rfl (Nat.le_of_ble_eq_true rfl) (fun v1 G1 sz1 hp1 => ?_)
  obtain ⟨rfl, rfl, ⟨p1, p2, p3, p4, p5, p6, p7⟩, -⟩ := hp1
  refine V.stk (st' := [.ref y]) rfl ?_
  refine V.astore_n (L' := [some (.ref (b)), some (.ref (y)), none, none]) k dL_law_17 (Nat.le_of_ble_eq_true rfl) rfl ?_
  refine V.new (ci := 3) (N := 21) (fs := [.int (nI (0)), .int (nI (0)), .int (nI (0)), .null, .null, .int (nI (0)), .int (nI (0)), .null, .null, .null, .null, .int (nI (0)), .int (nI (0)), .null, .null, .null, .null, .int (nI (0)), .int (nI (0)), .int (nI (0)), .int (nI (0))]) k dL_law_18 rfl (fun w h => wsL_law_in w (inlX3 w h)) tyX3_ok (tb_in 286 (by decide +kernel)) (tb_in 287 (by decide +kernel)) (tb_in 5 (by decide +kernel)) (fun j hj => by rcases (show j = 0 ∨ j = 1 ∨ j = 2 ∨ j = 3 ∨ j = 4 ∨ j = 5 ∨ j = 6 ∨ j = 7 ∨ j = 8 ∨ j = 9 ∨ j = 10 ∨ j = 11 ∨ j = 12 ∨ j = 13 ∨ j = 14 ∨ j = 15 ∨ j = 16 ∨ j = 17 ∨ j = 18 ∨ j = 19 ∨ j = 20 by omega) with rfl | rfl | rfl | rfl | rfl | rfl | rfl | rfl | rfl | rfl | rfl | rfl | rfl | rfl | rfl | rfl | rfl | rfl | rfl | rfl | rfl <;> rfl) (Nat.le_of_ble_eq_true rfl) (Nat.le_of_ble_eq_true rfl) ?_
  refine V.dup k dL_law_21 rfl ?_
  refine V.aload_n k dL_law_22 rfl ?_
  refine V.iconst (v := nI 0) k dL_law_23 (by decide) ?_
  refine V.callSX (As := [.ref b, .int (nI 0)]) k hX hbl hbw dL_law_24 (c_L_cell l w b L0 xs _ _ 0 (by omega) (by omega)) (goodIn_tb gL_law_L_cell wsL_law_in) rfl hd_L_cell ⟨⟨Nat.le_of_ble_eq_true rfl, Nat.le_of_ble_eq_true rfl⟩, Nat.le_of_ble_eq_true rfl, Nat.le_of_ble_eq_true rfl⟩ rfl rfl rfl (Nat.le_of_ble_eq_true rfl) ?_
  refine V.aload_n k dL_law_27 rfl ?_
  refine V.iconst (v := nI 1) k dL_law_28 (by decide) ?_
  refine V.callSX (As := [.ref b, .int (nI 1)]) k hX hbl hbw dL_law_29 (c_L_cell l w b L0 xs _ _ 1 (by omega) (by omega)) (goodIn_tb gL_law_L_cell wsL_law_in) rfl hd_L_cell ⟨⟨Nat.le_of_ble_eq_true rfl, Nat.le_of_ble_eq_true rfl⟩, Nat.le_of_ble_eq_true rfl, Nat.le_of_ble_eq_true rfl⟩ rfl rfl rfl (Nat.le_of_ble_eq_true rfl) ?_
  refine V.cI (As := [.int (cellV xs L0 0), .int (cellV xs L0 1)]) (st1 := [.ref (y + 15)]) k dL_law_32 (c_X3_init l w (y + 15) (y + 15 + 1) (gup G1 (y + 15) (gO 3 [.int (nI (0)), .int (nI (0)), .int (nI (0)), .null, .null, .int (nI (0)), .int (nI (0)), .null, .null, .null, .null, .int (nI (0)), .int (nI (0)), .null, .null, .null, .null, .int (nI (0)), .int (nI (0)), .int (nI (0)), .int (nI (0))])) (cellV xs L0 0) (cellV xs L0 1) rfl (gup_self _ _ _)) (goodIn_tb gL_law_X3_init wsL_law_in) rfl (tb_in 5 (by decide +kernel)) (tb_in 288 (by decide +kernel)) (tb_in 289 (by decide +kernel)) rfl hd_X3_init ⟨⟨Nat.le_of_ble_eq_true rfl, Nat.le_of_ble_eq_true rfl⟩, Nat.le_of_ble_eq_true rfl, Nat.le_of_ble_eq_true rfl⟩ rfl rfl rfl (Nat.le_of_ble_eq_true rfl) rfl ?_
  refine V.astore_n (L' := [some (.ref (b)), some (.ref (y)), some (.ref (y + 15)), none]) k dL_law_35 (Nat.le_of_ble_eq_true rfl) rfl ?_
  refine V.iconst (v := nI 2) k dL_law_36 (by decide) ?_
  refine V.istore_n (L' := [some (.ref (b)), some (.ref (y)), some (.ref (y + 15)), some (.int (nI (2)))]) k dL_law_37 (Nat.le_of_ble_eq_true rfl) rfl ?_
  have gst : ∀ a d nb nk n g R DB, a + 2 < y + 15 → StAt G1 a d nb nk n g R DB → StAt (gup G1 (y + 15) (gO 3 [.int (nI (0)), .int (nI (0)), .int (nI (0)), .null, .null, .int (nI (0)), .int (nI (0)), .null, .null, .null, .null, .int (nI (0)), .int (nI (0)), .null, .null, .null, .null, .int (nI (0)), .int (nI (0)), .int (nI (0)), .int (nI (0))])) a d nb nk n g R DB := fun a d nb nk n g R DB ha h => ⟨(gup_ne _ _ (by omega)).trans h.1, (gup_ne _ _ (by omega)).trans h.2.1, (gup_ne _ _ (by omega)).trans h.2.2⟩
  have hI := inv_start (G0 := G1) ((gup_ne _ _ (by omega)).trans p1) (gst _ _ _ _ _ _ _ _ (by omega) p2) (gst _ _ _ _ _ _ _ _ (by omega) p3) (gst _ _ _ _ _ _ _ _ (by omega) p4) ((gup_ne _ _ (by omega)).trans p5) ((gup_ne _ _ (by omega)).trans p6) ⟨(gup_ne _ _ (by omega)).trans p7.1, (gup_ne _ _ (by omega)).trans p7.2.1, (gup_ne _ _ (by omega)).trans p7.2.2⟩
  refine V.widen (k := 26 + 51 * 0) (n := 14898 + 595 * 0) (Nat.le_of_ble_eq_true rfl) (Nat.le_of_ble_eq_true rfl) ?_
  exact law_loop hL k hr hlocks hX hbl hw (L0 + 2) 0 2 (y + 26) _ _ _ _ _ _ rfl (by omega) (by omega) hI
