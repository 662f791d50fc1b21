theorem goodIn_tb {X Y ws : List Cond} (h : GoodIn X ws) (hs : ∀ w ∈ X, w ∈ Y) : GoodIn Y ws := fun c hc => ⟨hs _ (h c hc).1, (h c hc).2⟩
theorem tb_in {c : Cond} (i : Nat) (h : tables_1[i]? = some c) : c ∈ lw_tbl := List.mem_append_right _ (List.mem_of_getElem? h)
/-! the script: an array that lies outside our world -/
def gPcX (w : Wd) (b L : Nat) (xs : Nat → Int32) (av : List Value) (G : Pic) (sz : Nat) : Array Value → State → Prop := va_Pc av (fun U => (HG w G sz U.heap ∧ wK w U) ∧ va_X b L xs U U.heap ∧ b < w.2.2)
def CtX (l : Launch) (w : Wd) (b L : Nat) (xs : Nat → Int32) (y : MethodName) (ws : List Cond) (rm : Room) (av : List Value) (G : Pic) (sz : Nat) (post : Option Value → Pic → Nat → Prop) : Prop :=
  Met l y ws rm (gPcX w b L xs av G sz) (gQc w post) rm.cells rm.slots (wA w)
theorem gPcX_blind (w : Wd) (b L : Nat) (xs : Nat → Int32) (av : List Value) (G : Pic) (sz : Nat) : FrameBlind (gPcX w b L xs av G sz) := fun a U g mk q => ⟨q.1, ⟨q.2.1.1, wK.moved (u := U) (U := U.calling g mk a) (Vm.Alike.refl U.vm) q.2.1.2⟩, va_X.moved (u := U) (U := U.calling g mk a) (Vm.Alike.refl U.vm) q.2.2.1, q.2.2.2⟩
theorem CtX.of {l : Launch} {w : Wd} {b L0 : Nat} {xs : Nat → Int32} {y : MethodName} {ws ws' : List Cond} {rm : Room} {av : List Value} {G : Pic} {sz maxL : Nat} {cc : ByteArray} {ret : Option FieldType} {post : Option Value → Pic → Nat → Prop} {L : List (Option Value)} (hy : plainName y.cls = true) (hw : ws = Cond.code y cc maxL ret :: ws') (h1 : ∀ v ∈ av, v.category = 1) (hn : av.length ≤ maxL) (hL : av.map some ++ List.replicate (maxL - av.length) none = L)
    (body : ∀ (p : Program) (e : Env) (s : State) (m : MethodId) (args : Array Value) (below : List Frame) (meth : Method) (c : Code), Ok p s m args c w cc maxL y.cls ws → Mi meth ret y.name → va_X b L0 xs s s.heap → b < s.heap.size → b < w.2.2 → V p l e rm s m args below meth c w G sz 0 0 (mQ w below args s rm post) 0 L []) : CtX l w b L0 xs y ws rm av G sz post := by
  refine Met.ofW (cc := cc) (maxL := maxL) (ret := ret) hy hw ?_
  intro p e s m args below meth c s₁ B hml hv
  obtain ⟨rfl, ⟨hH, hK⟩, hX, hbw⟩ := hv
  subst hL
  have hb := body p e s m av.toArray below meth c ⟨⟨B.exec, B.bytes, hml, findClass_of_methodNamed B.named, atoms_spec (ws := ws) B.pre⟩, hK⟩ ⟨B.returns, B.notSynchronized, (name_of_methodNamed B.named B.method).1⟩ hX (by have := hH.1; have := hH.2.1; omega) hbw
  rw [lg_entry_eq]
  have hA : va_S (wA w) s.heap s.heap [] := va_S.rf
  exact hb s.heap [] _ hH hA (lvP.entry av h1 hn)
section VX
variable {p : Program} {l : Launch} {e : Env} {R : Room} {s : State} {m : MethodId} {args : Array Value} {below : List Frame} {meth : Method} {c : Code} {w : Wd} {G : Pic} {sz cells slots : Nat} {Q : State → Prop} {L : List (Option Value)} {st : List Value}
variable {cc : ByteArray} {nL : Nat} {own : String} {Ts : List Cond} {pc : Nat}
theorem V.callSX {b L0 : Nat} {xs : Nat → Int32} (k : Ok p s m args c w cc nL own Ts) (hX : va_X b L0 xs s s.heap) (hb : b < s.heap.size) (hbw : b < w.2.2) {y : MethodName} {ws ws' : List Cond} {rm : Room} {idx n maxL : Nat} {bytes : ByteArray} {ret : Option FieldType} {As : List Value} {v : Value} {st0 : List Value} (d : decode cc pc = .ok (.invokestatic idx, 3)) (hM : CtX l w b L0 xs y ws rm As G sz (rt (some v) G sz)) (hT : GoodIn Ts (va_wsS own idx y ws)) (hw : ws = Cond.code y bytes maxL ret :: ws')
    (hd : y.cls ≠ "java/lang/invoke/MethodHandle" ∧ y.cls ≠ "java/lang/invoke/VarHandle" ∧ (parseMethodDescriptor y.desc).map (fun d => d.parameters.length) = some n) (hR : (rm.frames + 1 ≤ R.frames ∧ 8 + (maxL + 11) + rm.locals ≤ R.locals) ∧ cells + rm.cells ≤ R.cells ∧ slots + rm.slots ≤ R.slots) (hn : As.length = n) (hL : L.length = nL) (hst : st0 = As.reverse ++ st) (hcat : (st.map fun v => v.category).sum ≤ 8)
    (h : V p l e R s m args below meth c w G sz (cells + rm.cells) (slots + rm.slots) Q (pc + 3) L (v :: st)) : V p l e R s m args below meth c w G sz cells slots Q pc L st0 := fun H locs ls X yS q => by
  have hp : PreS s H (gPcX w b L0 xs As G sz) As := by
    refine ⟨gPcX_blind w b L0 xs As G sz, fun U hU hW => ⟨rfl, ⟨by rw [hU]; exact X, k.2.moved hW.alike⟩, ?_, hbw⟩⟩
    rw [hU]
    exact (hX.kept (yS.2.1 b hb (show ¬ w.2.2 ≤ b by omega))).moved hW.alike
  exact V.back (va_runS k.1 hM (va_cwS n k.1.2.2.2.2 hT hw rfl rfl hd hR.1) hp rfl hn (q.1.trans hL) hst (lv_room hcat) d hR.2) yS q (fun v' G'' sz'' hp => by obtain ⟨rfl, rfl, rfl⟩ := hp; exact h)
end VX
def cellV (xs : Nat → Int32) (L j : Nat) : Int32 := if j < L then xs j else nI 0
set_option maxHeartbeats 4000000 in
set_option maxRecDepth 100000 in
theorem c_L_cell (l : Launch) (w : Wd) (b L0 : Nat) (xs : Nat → Int32) (sz : Nat) (G : Pic) (j0 : Nat) (hj : j0 < 2 ^ 31) (hL : L0 < 2 ^ 31) : CtX l w b L0 xs yL_cell wsL_cell ⟨0, 0, 0, 0⟩ [.ref (b), .int (nI (j0))] G sz (rt (some (.int (cellV xs L0 j0))) G sz) := by
  refine CtX.of (cc := cL_cell) (maxL := 2) (ret := (some .int)) (L := [some (.ref (b)), some (.int (nI (j0)))]) (by decide +kernel) rfl (by simp [Value.category]) (by simp) rfl ?_
  intro p e s m args below meth c k hM hX hbl hbw
  refine V.iload_n k dL_cell_0 rfl ?_
  refine V.aload_n k dL_cell_1 rfl ?_
  refine V.slen k dL_cell_2 hX hbl hbw ?_
  refine V.n_ge (tgt := 12) k dL_cell_3 (by decide) (by omega) (by omega) (fun hq => ?_) (fun hq => ?_)
  · refine V.iconst (v := nI 0) k dL_cell_12 (by decide) ?_
    refine V.stk (st' := [.int (cellV xs L0 j0)]) (by unfold cellV; rw [if_neg (by omega)]) ?_
    exact V.iret k hM dL_cell_13 (Nat.le_of_ble_eq_true rfl) (Nat.le_of_ble_eq_true rfl) (rt_ok)
  · refine V.aload_n k dL_cell_6 rfl ?_
    refine V.iload_n k dL_cell_7 rfl ?_
    refine V.sld k dL_cell_8 hX hbl hbw (j := j0) rfl (hq) (by omega) ?_
    refine V.goto (tgt := 13) k dL_cell_9 (by decide) ?_
    refine V.stk (st' := [.int (cellV xs L0 j0)]) (by unfold cellV; rw [if_pos hq]) ?_
    exact V.iret k hM dL_cell_13 (Nat.le_of_ble_eq_true rfl) (Nat.le_of_ble_eq_true rfl) (rt_ok)
/-! the world at the law's entry -/
theorem arr_of {U : State} {ty : FieldType} {c : ClassId} {kA : Class} {comp : ClassId} (h2 : U.vm.classes[c]? = some kA) (h3 : kA.kind = .array comp ty) : ArrOfT U c ty := fun n z => ⟨fun k h => (by cases h), kA, h2, comp, h3⟩
theorem law_wK {s : State} {args : Array Value} (hts : ∀ w ∈ lw_tbl, w.before args s = true) : ∃ (D : va_G) (I : Nat → ClassId), ∀ n, wK (D, I, n) s := by
  obtain ⟨c0, i0, k0⟩ := u_known (C := RX0) (T := TX0) (N := 5) (n := 5) hts (fun w h => wsL_law_in w (inlX0 w h)) (hts (.instantiable RX0 5) (tb_in 22 (by decide +kernel)))
  obtain ⟨c1, i1, k1⟩ := u_known (C := RX1) (T := TX1) (N := 5) (n := 5) hts (fun w h => wsL_law_in w (inlX1 w h)) (hts (.instantiable RX1 5) (tb_in 51 (by decide +kernel)))
  obtain ⟨c2, i2, k2⟩ := u_known (C := RX2) (T := TX2) (N := 9) (n := 9) hts (fun w h => wsL_law_in w (inlX2 w h)) (hts (.instantiable RX2 9) (tb_in 8 (by decide +kernel)))
  obtain ⟨c3, i3, k3⟩ := u_known (C := RX3) (T := TX3) (N := 21) (n := 21) hts (fun w h => wsL_law_in w (inlX3 w h)) (hts (.instantiable RX3 21) (tb_in 287 (by decide +kernel)))
  have hI := hts (.arrayClass .int) (tb_in 49 (by decide +kernel))
  have hZ := hts (.arrayClass .boolean) (tb_in 111 (by decide +kernel))
  have hB := hts (.arrayOver (.object RX0)) (tb_in 57 (by decide +kernel))
  have hS := hts (.arrayOver (.object RX1)) (tb_in 82 (by decide +kernel))
  obtain ⟨aI, kI, pI, I1, I2, I3⟩ := Cond.arrayClass_spec hI
  obtain ⟨aZ, kZ, pZ, Z1, Z2, Z3⟩ := Cond.arrayClass_spec hZ
  obtain ⟨pB, aB, kB, B1, -, B3, B4, B5⟩ := Cond.arrayOver_spec hB
  obtain ⟨pS, aS, kS, S1, -, S3, S4, S5⟩ := Cond.arrayOver_spec hS
  refine ⟨(fun k => if k = 0 then c0 else if k = 1 then c1 else if k = 2 then c2 else c3, fun k => if k = 0 then i0 else if k = 1 then i1 else if k = 2 then i2 else i3), fun k => if k = 0 then aI else if k = 1 then aZ else if k = 2 then aB else aS, fun n => ⟨⟨?_, ?_⟩, va_AO.of hB, va_AO.of hS⟩⟩
  · intro c q hq
    match c, hq with
    | 0, hq => cases hq; exact k0
    | 1, hq => cases hq; exact k1
    | 2, hq => cases hq; exact k2
    | 3, hq => cases hq; exact k3
    | c + 4, hq => simp at hq
  · intro c q hq
    match c, hq with
    | 0, hq => cases hq; exact ⟨arr_of I2 I3, I1⟩
    | 1, hq => cases hq; exact ⟨arr_of Z2 Z3, Z1⟩
    | 2, hq => cases hq; exact ⟨arr_of B3 B4, kB, pB, B3, B4, B1, B5⟩
    | 3, hq => cases hq; exact ⟨arr_of S3 S4, kS, pS, S3, S4, S1, S5⟩
    | c + 4, hq => simp at hq
theorem law_nest {s : State} {args : Array Value} (hts : ∀ w ∈ lw_tbl, w.before args s = true) : va_Nw (nestW "ExtendStore") s := va_Nw.of rfl (hts (nestW "ExtendStore") (tb_in 58 (by decide +kernel)))
/-! the invariant of the law's loop -/
section IV
variable {c y sz : Nat} {M G : Pic} {F F' : Nat → Nat} {K K' : Nat → Nat → Int32} {N N' : Nat → Nat → Nat} {Z Z' : Nat → Nat → Bool}
theorem INVM.x (h : INVM c y sz M F K N Z G) : ∃ fs, G y = some (gO 2 fs) := by
  obtain ⟨A, S, R, DB, T, BI, BD, P, hC, -⟩ := h
  exact ⟨_, hC.1.1⟩
theorem INVM.ms {G0 : Pic} (h : INVM c y sz (mset (y + 15) F' K' N' Z' G0) F K N Z G) : G = mset (y + 15) F' K' N' Z' G := by
  obtain ⟨A, S, R, DB, T, BI, BD, P, hC, -⟩ := h
  funext q
  have h1 := hC.2.2.1.1 q
  by_cases hq : y + 15 ≤ q ∧ q < y + 26
  · rw [h1 hq.1 hq.2]
    obtain ⟨a, rfl⟩ : ∃ a, q = y + 15 + a := ⟨q - (y + 15), by omega⟩
    have ha : a < 11 := by omega
    rcases (show a = 0 ∨ a = 1 ∨ a = 2 ∨ a = 3 ∨ a = 4 ∨ a = 5 ∨ a = 6 ∨ a = 7 ∨ a = 8 ∨ a = 9 ∨ a = 10 by omega) with h | h | h | h | h | h | h | h | h | h | h <;> subst h <;> simp [mset]
  · have h0 : ∀ i, i ≤ 10 → ¬ q = y + 15 + i := fun i hi e => hq ⟨by omega, by omega⟩
    unfold mset
    rw [if_neg (by have := h0 0 (by omega); omega), if_neg (h0 1 (by omega)), if_neg (h0 2 (by omega)), if_neg (h0 3 (by omega)), if_neg (h0 4 (by omega)), if_neg (h0 5 (by omega)), if_neg (h0 6 (by omega)), if_neg (h0 7 (by omega)), if_neg (h0 8 (by omega)), if_neg (h0 9 (by omega)), if_neg (h0 10 (by omega))]
theorem ms_out {m : Nat} {G0 : Pic} {q : Nat} (h : ¬ (m ≤ q ∧ q < m + 11)) : mset m F K N Z G0 q = G0 q := by
  have h0 : ∀ i, i ≤ 10 → ¬ q = m + i := fun i hi e => h ⟨by omega, by omega⟩
  unfold mset
  rw [if_neg (by have := h0 0 (by omega); omega), if_neg (h0 1 (by omega)), if_neg (h0 2 (by omega)), if_neg (h0 3 (by omega)), if_neg (h0 4 (by omega)), if_neg (h0 5 (by omega)), if_neg (h0 6 (by omega)), if_neg (h0 7 (by omega)), if_neg (h0 8 (by omega)), if_neg (h0 9 (by omega)), if_neg (h0 10 (by omega))]
theorem INVM.swap (h : INVM c y sz M F K N Z G) : INVM c y sz (mset (y + 15) F' K' N' Z' G) F K N Z (mset (y + 15) F' K' N' Z' G) := by
  obtain ⟨A, S, R, DB, T, BI, BD, P, hC, hR⟩ := h
  refine ⟨A, S, R, DB, T, BI, BD, P, ?_, hR⟩
  obtain ⟨⟨a1, a2, a3, a4, a5⟩, ⟨b1, b2⟩, ⟨c1, c2⟩, d⟩ := hC
  have ho : ∀ q, ¬ (y + 15 ≤ q ∧ q < y + 26) → mset (y + 15) F' K' N' Z' G q = G q := fun q hq => ms_out (fun z => hq ⟨z.1, by omega⟩)
  refine ⟨⟨(ho _ (by omega)).trans a1, ⟨(ho _ (by omega)).trans a2.1, (ho _ (by omega)).trans a2.2.1, (ho _ (by omega)).trans a2.2.2⟩, fun j hj => ⟨(ho _ (by omega)).trans (a3 j hj).1, (ho _ (by omega)).trans (a3 j hj).2.1, (ho _ (by omega)).trans (a3 j hj).2.2⟩, (ho _ (by omega)).trans a4, (ho _ (by omega)).trans a5⟩, ⟨fun b hb => ?_, b2⟩, ⟨fun q _ _ => rfl, c2⟩, d⟩
  obtain ⟨d1, d2, d3⟩ := b1 b hb
  exact ⟨⟨(ho _ (by omega)).trans d1.1, (ho _ (by omega)).trans d1.2.1, (ho _ (by omega)).trans d1.2.2⟩, d2, d3⟩
end IV
/-! the start -/
def S00 : Nat → Nat → Nat := fun _ => s3 0 1 0
def BI00 : Nat → Nat → Nat := fun j _ => if j = 4 then 2 else 0
theorem cntE_in : ∀ n, 2 ≤ n → cntE (inZ 0) n + 2 = n
  | 0, h => absurd h (by omega)
  | 1, h => absurd h (by omega)
  | 2, _ => rfl
  | n + 3, _ => by
    have ih := cntE_in (n + 2) (by omega)
    rw [cntE, if_neg]
    · omega
    · show ¬ decide (0 = 0 ∧ (n + 2 + 2 = 2 ∨ n + 2 + 2 = 3)) = true
      rw [decide_eq_true_eq]
      omega
theorem inv_start {y : Nat} {b0 d0 : Int32} {G G0 : Pic} (h1 : G y = some (xO y (iA b0 d0))) (h2 : StAt G (y + 4) 0 1 0 (2 ^ md8 d0) (drB (md8 d0)) (fun _ => y + 1) iDB) (h3 : StAt G (y + 8) 0 1 0 (2 ^ md8 d0) (drB (md8 d0)) (fun _ => y + 1) iDB) (h4 : StAt G (y + 11) 0 1 0 (2 ^ md8 d0) (drB (md8 d0)) (fun _ => y + 1) iDB) (h5 : G (y + 7) = some (gS 2 (fun j => some (y + 8 + 3 * j)))) (h6 : G (y + 14) = some (gZ (bl8 b0) (fun j => bI ((fun _ => false) j)))) (h7 : BkAt G (y + 1) 0 0 2 (fun _ => 0) (fun _ => 0)) :
    INVM 0 y (y + 26) (mset (y + 15) (inF b0 d0) (fun _ _ => 0) inN inZ G) (inF b0 d0) (fun _ _ => 0) inN inZ (mset (y + 15) (inF b0 d0) (fun _ _ => 0) inN inZ G) := by
  have hbl := bl8_le b0
  have hmd := md8_le d0
  have ho : ∀ q, ¬ (y + 15 ≤ q ∧ q < y + 26) → mset (y + 15) (inF b0 d0) (fun _ _ => 0) inN inZ G q = G q := fun q hq => ms_out (fun z => hq ⟨z.1, by omega⟩)
  have hst : ∀ a, a + 2 < y + 15 → StAt G a 0 1 0 (2 ^ md8 d0) (drB (md8 d0)) (fun _ => y + 1) iDB → StAt (mset (y + 15) (inF b0 d0) (fun _ _ => 0) inN inZ G) a 0 1 0 (2 ^ md8 d0) (drB (md8 d0)) (fun _ => y + 1) iDB := fun a ha h => ⟨(ho _ (by omega)).trans h.1, (ho _ (by omega)).trans h.2.1, (ho _ (by omega)).trans h.2.2⟩
  have eA0 : iA b0 d0 0 = bl8 b0 := rfl
  have eA1 : iA b0 d0 1 = md8 d0 := rfl
  have eA5 : iA b0 d0 5 = 0 := rfl
  have eF1 : inF b0 d0 1 = bl8 b0 := rfl
  have hz2 : inZ 0 2 = true := by decide
  refine ⟨iA b0 d0, S00, fun _ _ => y + 1, fun _ => iDB, fun _ => false, BI00, fun _ _ _ => 0, fun q => q = y + 1, ⟨⟨(ho _ (by omega)).trans h1, hst _ (by omega) h2, fun j hj => ?_, (ho _ (by omega)).trans h5, (ho _ (by omega)).trans h6⟩, ⟨fun b hb => ?_, fun b b' hb hb' => Or.inl (hb.trans hb'.symm)⟩, ⟨fun q _ _ => rfl, Nat.le_refl _⟩, ?_⟩, ?_⟩
  · rcases (show j = 0 ∨ j = 1 by omega) with rfl | rfl
    · exact hst _ (by omega) h3
    · exact hst _ (by omega) h4
  · subst hb
    exact ⟨⟨(ho _ (by omega)).trans h7.1, (ho _ (by omega)).trans h7.2.1, (ho _ (by omega)).trans h7.2.2⟩, Or.inl rfl, by omega⟩
  · exact ⟨by omega, by omega, by omega, by omega, (show 0 < 2 ^ 31 by omega), (show 0 ≤ 1 by omega)⟩
  · have hvw : ∀ L H : Nat → Nat, L 0 = 0 → H 0 = 2 → Vw 0 0 (fun _ => 0) (fun _ => 0) L H (fun _ => y + 1) BI00 (fun _ _ _ => 0) (fun q => q = y + 1) := fun L H hL hH => by
      refine ⟨fun e he => ?_, fun e e' he he' => ?_⟩
      · have he1 : e = 0 := by simpa using he
        subst he1
        exact ⟨rfl, by omega, hL.symm, hH.symm, (show 0 ≤ 15 by omega), List.Perm.refl _⟩
      · have he1 : e = 0 := by simpa using he
        have he2 : e' = 0 := by simpa using he'
        subst he1
        subst he2
        exact ⟨fun _ => rfl, fun _ => rfl⟩
    have hcf : ∀ L : Nat → Nat, 1 = cntF L (2 ^ 0) := fun L => by
      show 1 = cntF L (0 + 1)
      rw [cntF, if_pos (Nat.zero_mod _)]
      rfl
    refine ⟨⟨rfl, rfl, rfl, rfl, rfl⟩, ⟨rfl, (show 0 ≤ 1 by omega), (show 0 ≤ 1 by omega), (show 0 ≤ 300 * 0 by omega), Nat.le_refl _, Nat.le_refl _, (show 0 ≤ 8 by omega), fun e he => ?_⟩, ⟨⟨rfl, hcf _, rfl, hvw _ _ rfl rfl, fun i j hi => absurd (show i < 0 from hi) (by omega)⟩, fun e he => ?_, fun e e' he he' _ => rfl, fun b hb1 hb2 => ?_, fun i hi => ?_, ?_⟩, fun _ => ⟨rfl, rfl, ⟨hvw _ _ rfl rfl, hcf _, ⟨fun e he _ => ?_, fun e e' he he' _ _ => rfl⟩⟩, fun i j hi => absurd (show i < 0 from hi) (by omega), ?_⟩, fun b => (show 2 < 2 ^ 31 by omega), fun j hj => (show 0 ≤ iA b0 d0 1 by omega)⟩
    · have he1 : e = 0 := by have h9 : e < 2 ^ 0 := he; simpa using h9
      subst he1
      exact (show 0 ≤ 8 by omega)
    · have he1 : e = 0 := by have h9 : e < 2 ^ 0 := he; simpa using h9
      subst he1
      exact ⟨(show 2 ≤ 2 by omega), (show 2 < bl8 b0 by omega)⟩
    · show decide (0 = 0 ∧ (b = 2 ∨ b = 3)) = true ↔ _
      rw [decide_eq_true_eq]
      constructor
      · rintro ⟨-, q | q⟩
        · exact Or.inl ⟨0, (show 0 < 2 ^ 0 by omega), q.symm⟩
        · exact Or.inr ⟨0, (show 0 < 1 by omega), q.symm⟩
      · rintro (⟨e, he, q⟩ | ⟨i, hi, q⟩)
        · have he1 : e = 0 := by have h9 : e < 2 ^ 0 := he; simpa using h9
          subst he1
          exact ⟨rfl, Or.inl q.symm⟩
        · have hi1 : i = 0 := by have h9 : i < 1 := hi; omega
          subst hi1
          exact ⟨rfl, Or.inr q.symm⟩
    · have hi1 : i = 0 := by have h9 : i < 1 := hi; omega
      subst hi1
      exact (show 3 < bl8 b0 by omega)
    · show cntE (inZ 0) (bl8 b0 - 2) + cntF (inN 2) (2 ^ 0) + 1 = bl8 b0 - 2
      rw [← hcf]
      have := cntE_in (bl8 b0 - 2) (by omega)
      omega
    · have he1 : e = 0 := by have h9 : e < 2 ^ 0 := he; simpa using h9
      subst he1
      exact ⟨(show 2 ≤ 2 by omega), (show 2 < bl8 b0 by omega), hz2⟩
    · constructor
      · intro q
        have h9 : (0 : Nat) = 1 := q
        omega
      · rintro ⟨e, he, q⟩
        have he1 : e = 0 := by have h9 : e < 2 ^ 0 := he; simpa using h9
        subst he1
        have h9 : (2 : Nat) = 0 := q
        omega
