/-! the class's side: words for its cells, calls that give a relation, a nest mate's static method -/
theorem gup_gup (G : Pic) (a : Nat) (e e' : Ent) : gup (gup G a e) a e' = gup G a e' := by
  funext q
  unfold gup
  by_cases h : q = a <;> simp [h]
theorem upd_nI (f : Nat → Nat) (j v : Nat) : upd (fun i => nI (f i)) j (nI v) = fun i => nI (va_up f j v i) := by
  funext i
  unfold upd va_up
  by_cases h : i = j <;> simp [h]
theorem upd_bI (f : Nat → Bool) (j : Nat) (v : Bool) : upd (fun i => bI (f i)) j (bI v) = fun i => bI (va_up f j v i) := by
  funext i
  unfold upd va_up
  by_cases h : i = j <;> simp [h]
theorem up_some (f : Nat → Nat) (j v : Nat) : va_up (fun i => some (f i)) j (some v) = fun i => some (va_up f j v i) := by
  funext i
  unfold va_up
  by_cases h : i = j <;> simp [h]
/-- a bucket at b -/
def BkAt (G : Pic) (b loc cnt blk : Nat) (K V : Nat → Int32) : Prop :=
  G b = some (gO 0 [.int (nI loc), .ref (b + 1), .ref (b + 2), .int (nI cnt), .int (nI blk)]) ∧ G (b + 1) = some (gI 15 K) ∧ G (b + 2) = some (gI 15 V)
/-- a State's object and its two rows at a -/
def StAt (G : Pic) (a dep nb nk n g : Nat) (R DB : Nat → Nat) : Prop :=
  G a = some (gO 1 [.ref (a + 1), .ref (a + 2), .int (nI dep), .int (nI nb), .int (nI nk)]) ∧ G (a + 1) = some (gB n (fun j => some (R j))) ∧ G (a + 2) = some (gI g (fun j => nI (DB j)))
/-- nothing else has changed, but for three cells -/
def Sm (G G' : Pic) (b : Nat) : Prop := ∀ q, (q < b ∨ b + 2 < q) → G' q = G q
theorem Sm.rf (G : Pic) (b : Nat) : Sm G G b := fun _ _ => rfl
theorem Sm.tr {G G1 G2 : Pic} {b : Nat} (h : Sm G G1 b) (h1 : Sm G1 G2 b) : Sm G G2 b := fun q hq => (h1 q hq).trans (h q hq)
theorem Sm.up {G : Pic} {b a : Nat} (e : Ent) (h : b ≤ a ∧ a ≤ b + 2) : Sm G (gup G a e) b := fun q hq => gup_ne G e (by omega)
theorem BkAt.sm {G G' : Pic} {b c loc cnt blk : Nat} {K V : Nat → Int32} (h : BkAt G b loc cnt blk K V) (hs : Sm G G' c) (hd : b + 2 < c ∨ c + 2 < b) : BkAt G' b loc cnt blk K V :=
  ⟨(hs b (by omega)).trans h.1, (hs (b + 1) (by omega)).trans h.2.1, (hs (b + 2) (by omega)).trans h.2.2⟩
theorem StAt.sm {G G' : Pic} {b c dep nb nk n g : Nat} {R DB : Nat → Nat} (h : StAt G b dep nb nk n g R DB) (hs : Sm G G' c) (hd : b + 2 < c ∨ c + 2 < b) : StAt G' b dep nb nk n g R DB :=
  ⟨(hs b (by omega)).trans h.1, (hs (b + 1) (by omega)).trans h.2.1, (hs (b + 2) (by omega)).trans h.2.2⟩
/-- the private static method of a nest mate: its link is no word of a table -/
def nestW (host : String) : Cond := .methodLinkNest RX1 17 yX2_blocksOfDirectory host
def gPcN (w : Wd) (host : String) (av : List Value) (G : Pic) (sz : Nat) : Array Value → State → Prop := va_Pc av (fun U => (HG w G sz U.heap ∧ wK w U) ∧ va_Nw (nestW host) U)
def CtN (l : Launch) (w : Wd) (host : String) (y : MethodName) (ws : List Cond) (rm : Room) (av : List Value) (G : Pic) (sz : Nat) (post : Option Value → Pic → Nat → Prop) : Prop :=
  Met l y ws rm (gPcN w host av G sz) (gQc w post) rm.cells rm.slots (wA w)
theorem gPcN_blind (w : Wd) (host : String) (av : List Value) (G : Pic) (sz : Nat) : FrameBlind (gPcN w host av G sz) := fun a U g mk q => ⟨q.1, ⟨q.2.1.1, wK.moved (u := U) (U := U.calling g mk a) (Vm.Alike.refl U.vm) q.2.1.2⟩, va_Nw.same rfl rfl q.2.2⟩
theorem CtN.of {l : Launch} {w : Wd} {host : String} {y : MethodName} {ws ws' : List Cond} {rm : Room} {av : List Value} {G : Pic} {sz maxL : Nat} {cc : ByteArray} {ret : Option FieldType} {post : Option Value → Pic → Nat → Prop} {L : List (Option Value)} (hy : plainName y.cls = true) (hw : ws = Cond.code y cc maxL ret :: ws') (h1 : ∀ v ∈ av, v.category = 1) (hn : av.length ≤ maxL) (hL : av.map some ++ List.replicate (maxL - av.length) none = L)
    (body : ∀ (p : Program) (e : Env) (s : State) (m : MethodId) (args : Array Value) (below : List Frame) (meth : Method) (c : Code), Ok p s m args c w cc maxL y.cls ws → Mi meth ret y.name → va_Nw (nestW host) s → V p l e rm s m args below meth c w G sz 0 0 (mQ w below args s rm post) 0 L []) : CtN l w host y ws rm av G sz post := by
  refine Met.ofW (cc := cc) (maxL := maxL) (ret := ret) hy hw ?_
  intro p e s m args below meth c s₁ B hml hv
  obtain ⟨rfl, ⟨hH, hK⟩, hN⟩ := hv
  subst hL
  have hb := body p e s m av.toArray below meth c ⟨⟨B.exec, B.bytes, hml, findClass_of_methodNamed B.named, atoms_spec (ws := ws) B.pre⟩, hK⟩ ⟨B.returns, B.notSynchronized, (name_of_methodNamed B.named B.method).1⟩ hN
  rw [lg_entry_eq]
  have hA : va_S (wA w) s.heap s.heap [] := va_S.rf
  exact hb s.heap [] _ hH hA (lvP.entry av h1 hn)
section VW
variable {p : Program} {l : Launch} {e : Env} {R : Room} {s : State} {m : MethodId} {args : Array Value} {below : List Frame} {meth : Method} {c : Code} {w : Wd} {G : Pic} {sz cells slots : Nat} {Q : State → Prop} {L : List (Option Value)} {st : List Value}
variable {cc : ByteArray} {nL : Nat} {own : String} {Ts : List Cond} {pc : Nat}
theorem V.preN {H : Heap} {host : String} (k : wK w s) (hN : va_Nw (nestW host) s) (X : HG w G sz H) (av : List Value) : PreS s H (gPcN w host av G sz) av :=
  ⟨gPcN_blind w host av G sz, fun U hU hW => ⟨rfl, ⟨by rw [hU]; exact X, k.moved hW.alike⟩, va_Nw.warmM hW hN⟩⟩
theorem V.callIN {host : String} (k : Ok p s m args c w cc nL own Ts) (hN : va_Nw (nestW host) s) {y : MethodName} {ws ws' : List Cond} {rm : Room} {idx n maxL b : Nat} {bytes : ByteArray} {As : List Value} {post : Option Value → Pic → Nat → Prop} {st0 : List Value} (d : decode cc pc = .ok (.invokespecial idx, 3)) (hM : CtN l w host y ws rm (.ref b :: As) G sz post) (hT : GoodIn Ts ws) (hw : ws = Cond.code y bytes maxL none :: ws') (h1 : Cond.initialized y.cls ∈ Ts) (h2 : Cond.methodLink own idx y ∈ Ts) (h3 : Cond.instanceMethod y ∈ Ts) (hy : y.name = "<init>")
    (hd : y.cls ≠ "java/lang/invoke/MethodHandle" ∧ y.cls ≠ "java/lang/invoke/VarHandle" ∧ (parseMethodDescriptor y.desc).map (fun d => d.parameters.length) = some n) (hR : (rm.frames + 1 ≤ R.frames ∧ 8 + (maxL + 11) + rm.locals ≤ R.locals) ∧ cells + rm.cells ≤ R.cells ∧ slots + rm.slots ≤ R.slots) (hn : As.length = n) (hL : L.length = nL) (hst : st0 = As.reverse ++ .ref b :: st) (hcat : (st.map fun v => v.category).sum ≤ 8)
    (h : ∀ (v : Option Value) (G' : Pic) (sz' : Nat), post v G' sz' → V p l e R s m args below meth c w G' sz' (cells + rm.cells) (slots + rm.slots) Q (pc + 3) L (v.toList ++ st)) : V p l e R s m args below meth c w G sz cells slots Q pc L st0 := fun H locs ls X yS q =>
  V.back (va_runI k.1 hM (cwI n k.1.2.2.2.2 hT hw rfl rfl (k.1.2.2.2.2 _ h1) (k.1.2.2.2.2 _ h2) (k.1.2.2.2.2 _ h3) hy hd hR.1) (V.preN k.2 hN X _) rfl hn (q.1.trans hL) hst (lv_room hcat) d hR.2) yS q h
theorem V.callSN {host : String} (k : Ok p s m args c w cc nL own Ts) (hown : own = RX1) (hN : va_Nw (nestW host) s) {ws ws' : List Cond} {rm : Room} {maxL : Nat} {bytes : ByteArray} {ret : Option FieldType} {As : List Value} {post : Option Value → Pic → Nat → Prop} {st0 : List Value} (d : decode cc pc = .ok (.invokestatic 17, 3)) (hM : Ct l w yX2_blocksOfDirectory ws rm As G sz post) (hT : GoodIn Ts ws) (hw : ws = Cond.code yX2_blocksOfDirectory bytes maxL ret :: ws') (h1 : Cond.initialized RX2 ∈ Ts) (h2 : Cond.static yX2_blocksOfDirectory ∈ Ts)
    (hR : (rm.frames + 1 ≤ R.frames ∧ 8 + (maxL + 11) + rm.locals ≤ R.locals) ∧ cells + rm.cells ≤ R.cells ∧ slots + rm.slots ≤ R.slots) (hn : As.length = 1) (hL : L.length = nL) (hst : st0 = As.reverse ++ st) (hcat : (st.map fun v => v.category).sum ≤ 8)
    (h : ∀ (v : Option Value) (G' : Pic) (sz' : Nat), post v G' sz' → V p l e R s m args below meth c w G' sz' (cells + rm.cells) (slots + rm.slots) Q (pc + 3) L (v.toList ++ st)) : V p l e R s m args below meth c w G sz cells slots Q pc L st0 := fun H locs ls X yS q => by
  subst hown
  exact V.back (va_runSN k.1 hM ⟨va_cnB (host := host) 1 k.1.2.2.2.2 hT hw rfl rfl hN (k.1.2.2.2.2 _ h1) hd_X2_blocksOfDirectory hR.1, k.1.2.2.2.2 _ h2, trivial⟩ (V.pre k.2 X _) rfl hn (q.1.trans hL) hst (lv_room hcat) d hR.2) yS q h
end VW
