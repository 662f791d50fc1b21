/-! the judgement V: a picture says, address by address, what a cell holds; every row turns V at an instruction into V at the next -/
abbrev Ent : Type := (Nat × List Value) ⊕ ((Nat × (Nat → Int32)) ⊕ ((Nat × (Nat → Int32)) ⊕ ((Nat × (Nat → Option Nat)) ⊕ (Nat × (Nat → Option Nat)))))
abbrev gO (ci : Nat) (fs : List Value) : Ent := .inl (ci, fs)
abbrev gI (n : Nat) (f : Nat → Int32) : Ent := .inr (.inl (n, f))
abbrev gZ (n : Nat) (f : Nat → Int32) : Ent := .inr (.inr (.inl (n, f)))
abbrev gB (n : Nat) (f : Nat → Option Nat) : Ent := .inr (.inr (.inr (.inl (n, f))))
abbrev gS (n : Nat) (f : Nat → Option Nat) : Ent := .inr (.inr (.inr (.inr (n, f))))
abbrev Pic : Type := Nat → Option Ent
def gup (G : Pic) (a : Nat) (e : Ent) : Pic := fun q => if q = a then some e else G q
theorem gup_self (G : Pic) (a : Nat) (e : Ent) : gup G a e a = some e := by simp [gup]
theorem gup_ne (G : Pic) {a q : Nat} (e : Ent) (h : q ≠ a) : gup G a e q = G q := by simp [gup, h]
/-- the world: where the tables hold the classes, the classes of the arrays, the first address that is ours -/
abbrev Wd : Type := va_G × (Nat → ClassId) × Nat
def toE (w : Wd) : Ent → va_E
  | .inl o => .inr o
  | .inr (.inl (n, f)) => .inl (w.2.1 0, n, .inl f)
  | .inr (.inr (.inl (n, f))) => .inl (w.2.1 1, n, .inl f)
  | .inr (.inr (.inr (.inl (n, f)))) => .inl (w.2.1 2, n, .inr (.inr (.inr (.inr f))))
  | .inr (.inr (.inr (.inr (n, f)))) => .inl (w.2.1 3, n, .inr (.inr (.inr (.inr f))))
abbrev wTys (w : Wd) : List (ClassId × FieldType) := [(w.2.1 0, .int), (w.2.1 1, .boolean), (w.2.1 2, .object RX0), (w.2.1 3, .object RX1)]
def wK (w : Wd) (s : State) : Prop := va_K w.1 vwCl (wTys w) s ∧ va_AO RX0 s ∧ va_AO RX1 s
def HG (w : Wd) (G : Pic) (sz : Nat) (H : Heap) : Prop := H.size = sz ∧ w.2.2 ≤ sz ∧ ∀ (a : Nat) (e : Ent), G a = some e → w.2.2 ≤ a ∧ va_at w.1 vwCl (a, toE w e) H
def wA (w : Wd) : Nat → Prop := fun q => w.2.2 ≤ q
theorem wK.moved {w : Wd} {u U : State} (hvm : u.vm.Alike U.vm) (h : wK w u) : wK w U := ⟨va_K.moved hvm h.1, h.2.1.moved hvm, h.2.2.moved hvm⟩
theorem HG.lt {w : Wd} {G : Pic} {sz : Nat} {H : Heap} (h : HG w G sz H) {a : Nat} {e : Ent} (ha : G a = some e) : a < sz := by
  have := (h.2.2 a e ha).2.lt
  rw [h.1] at this
  exact this
theorem HG.one {w : Wd} {G : Pic} {sz : Nat} {H : Heap} (h : HG w G sz H) {a : Nat} {e : Ent} (ha : G a = some e) : va_P w.1 vwCl [(a, toE w e)] H := by
  intro k q hk
  match k, hk with
  | 0, hk => cases hk; exact (h.2.2 a e ha).2
  | k + 1, hk => simp at hk
theorem HG.put {w : Wd} {G : Pic} {sz : Nat} {H H1 : Heap} (h : HG w G sz H) {a : Nat} {e0 e : Ent} (ha : G a = some e0) (hs : H1.size = H.size) (he : va_at w.1 vwCl (a, toE w e) H1) (oq : ∀ q : Nat, q ≠ a → H1[q]? = H[q]?) : HG w (gup G a e) sz H1 := by
  refine ⟨hs.trans h.1, h.2.1, fun q e' hq => ?_⟩
  by_cases hqa : q = a
  · subst hqa
    rw [gup_self] at hq
    cases hq
    exact ⟨(h.2.2 q e0 ha).1, he⟩
  · rw [gup_ne G e hqa] at hq
    exact ⟨(h.2.2 q e' hq).1, (h.2.2 q e' hq).2.kept (oq q hqa)⟩
theorem HG.push {w : Wd} {G : Pic} {sz : Nat} {H H1 : Heap} (h : HG w G sz H) {e : Ent} (hs : H1.size = sz + 1) (he : va_at w.1 vwCl (sz, toE w e) H1) (oq : ∀ q : Nat, q < sz → H1[q]? = H[q]?) : HG w (gup G sz e) (sz + 1) H1 := by
  refine ⟨hs, Nat.le_succ_of_le h.2.1, fun q e' hq => ?_⟩
  by_cases hqa : q = sz
  · subst hqa
    rw [gup_self] at hq
    cases hq
    exact ⟨h.2.1, he⟩
  · rw [gup_ne G e hqa] at hq
    exact ⟨(h.2.2 q e' hq).1, (h.2.2 q e' hq).2.kept (oq q (h.lt hq))⟩
theorem va_S.mk1 {A : Nat → Prop} {H0 H H1 : Heap} {locs : List Loc} {sz : Nat} (h : va_S A H0 H locs) (hs : H.size = sz) (z : H1.size = sz + 1) (oq : ∀ q : Nat, q < sz → H1[q]? = H[q]?) : va_S A H0 H1 locs :=
  ⟨Nat.le_trans h.1 (by omega), fun q h1 h2 => (oq q (by have := h.1; omega)).trans (h.2.1 q h1 h2), h.2.2⟩
/-- the locals by their places -/
def lvP (ls : Array Slot) (L : List (Option Value)) : Prop := ls.size = L.length ∧ lv_wf ls ∧ ∀ (i : Nat) (v : Value), L[i]? = some (some v) → ls[i]? = some (.val v) ∧ v.category = 1
def lvQ (L : List (Option Value)) : List (Nat × Value) := (List.range L.length).filterMap fun j => (L[j]?.join).map fun v => (j, v)
theorem lvQ_mem {L : List (Option Value)} {j : Nat} {v : Value} : (j, v) ∈ lvQ L ↔ L[j]? = some (some v) := by
  unfold lvQ
  rw [List.mem_filterMap]
  constructor
  · rintro ⟨i, -, h⟩
    cases hL : L[i]? with
    | none => rw [hL] at h; simp at h
    | some o =>
      rw [hL] at h
      cases o with
      | none => simp at h
      | some u =>
        simp at h
        obtain ⟨rfl, rfl⟩ := h
        exact hL
  · intro h
    refine ⟨j, ?_, ?_⟩
    · rw [List.mem_range]
      exact (List.getElem?_eq_some_iff.mp h).1
    · rw [h]; rfl
theorem lvP.has {ls : Array Slot} {L : List (Option Value)} (h : lvP ls L) : lv_has ls L.length (lvQ L) :=
  ⟨h.1, h.2.1, fun q hq => (h.2.2 q.1 q.2 (lvQ_mem.mp (by cases q; exact hq))).1⟩
theorem lvP.st {ls ls' : Array Slot} {L : List (Option Value)} {i : Nat} {x : Value} (h : lvP ls L) (hx : x.category = 1) (h' : lv_has ls' L.length ((i, x) :: (lvQ L).filter (fun q => !(q.1 == i) && !(q.1 + 1 == i && q.2.category == 2)))) : lvP ls' (L.set i (some x)) := by
  refine ⟨by rw [List.length_set]; exact h'.1, h'.2.1, fun j v hj => ?_⟩
  rw [List.getElem?_set] at hj
  by_cases hij : i = j
  · subst hij
    rw [if_pos rfl] at hj
    split at hj
    · cases hj
      exact ⟨h'.2.2 (i, x) List.mem_cons_self, hx⟩
    · cases hj
  · rw [if_neg hij] at hj
    have hc := (h.2.2 j v hj).2
    refine ⟨h'.2.2 (j, v) (List.mem_cons_of_mem _ (List.mem_filter.mpr ⟨lvQ_mem.mpr hj, ?_⟩)), hc⟩
    have hji : ¬ j = i := fun e => hij e.symm
    simp [hc, hji]
theorem lvP.entry (vs : List Value) {n : Nat} (h1 : ∀ v ∈ vs, v.category = 1) (hn : vs.length ≤ n) : lvP ((lg_sl vs ++ List.replicate (n - (lg_sl vs).length) Slot.unset).toArray) (vs.map some ++ List.replicate (n - vs.length) none) := by
  have hsl : (lg_sl vs).length = vs.length := by
    clear hn
    induction vs with
    | nil => rfl
    | cons v t ih =>
      have hv := h1 v List.mem_cons_self
      have := ih (fun u hu => h1 u (List.mem_cons_of_mem _ hu))
      simp only [lg_sl, List.flatMap_cons, List.length_append, List.length_cons] at this ⊢
      rw [this]
      simp [hv]
      try omega
  have hl := lv_entry vs (n := n) (by omega)
  refine ⟨by rw [hl.1]; simp; omega, hl.2.1, fun i v hi => ?_⟩
  have hiv : vs[i]? = some v := by
    by_cases hlt : i < vs.length
    · rw [List.getElem?_append_left (by simpa using hlt), List.getElem?_map] at hi
      cases hv : vs[i]? with
      | none => rw [hv] at hi; simp at hi
      | some u => rw [hv] at hi; simp at hi; rw [hi]
    · rw [List.getElem?_append_right (by simpa using hlt), List.getElem?_replicate] at hi
      split at hi
      · simp at hi
      · simp at hi
  have hc : v.category = 1 := h1 v (List.mem_of_getElem? hiv)
  refine ⟨hl.2.2 (i, v) ?_, hc⟩
  have key : ∀ (us : List Value) (k : Nat), (∀ u ∈ us, u.category = 1) → ∀ (j : Nat) (u : Value), us[j]? = some u → (k + j, u) ∈ lv_args k us := by
    intro us
    induction us with
    | nil => intro k _ j u hj; simp at hj
    | cons a t ih =>
      intro k hk j u hj
      have ha := hk a List.mem_cons_self
      unfold lv_args
      rw [if_neg (by omega)]
      cases j with
      | zero =>
        rw [List.getElem?_cons_zero] at hj
        cases hj
        exact List.mem_cons_self
      | succ j =>
        rw [List.getElem?_cons_succ] at hj
        have := ih (k + 1) (fun b hb => hk b (List.mem_cons_of_mem _ hb)) j u hj
        rw [show k + (j + 1) = k + 1 + j by omega]
        exact List.mem_cons_of_mem _ this
  have := key vs 0 h1 i v hiv
  rwa [Nat.zero_add] at this
/-- the numbers of an instruction's field: the class, the place -/
def FL (Ts : List Cond) (own : String) (idx ci j : Nat) : Prop := ∃ (C : String) (T : u_T) (N : Nat), vwCl[ci]? = some (C, T, N) ∧ (∀ w ∈ u_ws C T N, w ∈ Ts) ∧ j < N ∧ Cond.fieldLink own idx C (T j).2.1 (T j).2.2.1 ∈ Ts ∧ (T j).1 = C
/-- what a store needs of the class -/
def FT (ci j : Nat) (ty : FieldType) (fin : Bool) : Prop := ∃ (C : String) (T : u_T) (N : Nat), vwCl[ci]? = some (C, T, N) ∧ (∃ ty0 : Nat → FieldType, ∀ k, k < N → parseFieldDescriptor (T k).2.2.1 = some (ty0 k)) ∧ (∀ a, a < N → ∀ b, b < N → a ≠ b → (T a).2.1 ≠ (T b).2.1) ∧ (T j).2.2.2 = fin ∧ parseFieldDescriptor (T j).2.2.1 = some ty
def Ok (p : Program) (s : State) (m : MethodId) (args : Array Value) (c : Code) (w : Wd) (cc : ByteArray) (nL : Nat) (own : String) (Ts : List Cond) : Prop := CallFix p m c cc nL s args Ts own ∧ wK w s
def Mi (meth : Method) (ret : Option FieldType) (nm : String) : Prop := meth.sig.returnType = ret ∧ meth.locks = false ∧ meth.name = nm
def gPc (w : Wd) (av : List Value) (G : Pic) (sz : Nat) : Array Value → State → Prop := va_Pc av (fun U => HG w G sz U.heap ∧ wK w U)
def gQc (w : Wd) (post : Option Value → Pic → Nat → Prop) : Array Value → State → Outcome → State → Prop := fun _ st o t => (∃ (v : Option Value) (G' : Pic) (sz' : Nat), o = .returned v ∧ post v G' sz' ∧ HG w G' sz' t.heap ∧ wK w t) ∧ va_F (wA w) st t
/-- a method's contract: from the picture G, of sz cells -/
def Ct (l : Launch) (w : Wd) (y : MethodName) (ws : List Cond) (rm : Room) (av : List Value) (G : Pic) (sz : Nat) (post : Option Value → Pic → Nat → Prop) : Prop :=
  Met l y ws rm (gPc w av G sz) (gQc w post) rm.cells rm.slots (wA w)
def mQ (w : Wd) (below : List Frame) (args : Array Value) (s : State) (rm : Room) (post : Option Value → Pic → Nat → Prop) : State → Prop := MQ below (gQc w post) args s rm.cells rm.slots (wA w)
theorem gPc_blind (w : Wd) (av : List Value) (G : Pic) (sz : Nat) : FrameBlind (gPc w av G sz) := fun a U g mk q => ⟨q.1, q.2.1, wK.moved (u := U) (U := U.calling g mk a) (Vm.Alike.refl U.vm) q.2.2⟩
section VV
variable {p : Program} {l : Launch} {e : Env} {R : Room} {s : State} {m : MethodId} {args : Array Value} {below : List Frame} {meth : Method} {c : Code} {w : Wd} {G : Pic} {sz cells slots : Nat} {Q : State → Prop} {L : List (Option Value)} {st : List Value}
variable {cc : ByteArray} {nL : Nat} {own : String} {Ts : List Cond} {pc : Nat}
def V (p : Program) (l : Launch) (e : Env) (R : Room) (s : State) (m : MethodId) (args : Array Value) (below : List Frame) (meth : Method) (c : Code) (w : Wd) (G : Pic) (sz cells slots : Nat) (Q : State → Prop) (pc : Nat) (L : List (Option Value)) (st : List Value) : Prop :=
  ∀ (H : Heap) (locs : List Loc) (ls : Array Slot), HG w G sz H → va_S (wA w) s.heap H locs → lvP ls L → W p l e R s m args below meth c H locs cells slots Q (F0 m pc ls st)
theorem V.facts (h : (∀ (a : Nat) (e : Ent), G a = some e → w.2.2 ≤ a ∧ a < sz) → V p l e R s m args below meth c w G sz cells slots Q pc L st) : V p l e R s m args below meth c w G sz cells slots Q pc L st :=
  fun H locs ls a b d => h (fun q e hq => ⟨(a.2.2 q e hq).1, a.lt hq⟩) H locs ls a b d
theorem V.pic {G' : Pic} (hG : G = G') (h : V p l e R s m args below meth c w G' sz cells slots Q pc L st) : V p l e R s m args below meth c w G sz cells slots Q pc L st := by subst hG; exact h
theorem V.loc {L' : List (Option Value)} (hL : L = L') (h : V p l e R s m args below meth c w G sz cells slots Q pc L' st) : V p l e R s m args below meth c w G sz cells slots Q pc L st := by subst hL; exact h
theorem V.stk {st' : List Value} (hL : st = st') (h : V p l e R s m args below meth c w G sz cells slots Q pc L st') : V p l e R s m args below meth c w G sz cells slots Q pc L st := by subst hL; exact h
theorem V.widen {k n : Nat} (h1 : cells ≤ k) (h2 : slots ≤ n) (h : V p l e R s m args below meth c w G sz k n Q pc L st) : V p l e R s m args below meth c w G sz cells slots Q pc L st :=
  fun H locs ls a b d => W.widen h1 h2 (h H locs ls a b d)

theorem V.iconst (k : Ok p s m args c w cc nL own Ts) {n : Int} {v : Int32} (d : decode cc pc = .ok (.iconst n, 1)) (hv : Int32.ofInt n = v) (h : V p l e R s m args below meth c w G sz cells slots Q (pc + 1) L (.int v :: st)) : V p l e R s m args below meth c w G sz cells slots Q pc L st := fun H locs ls a b q => lv_iconst k.1.1 k.1.2.1 d hv (h H locs ls a b q)
theorem V.bipush (k : Ok p s m args c w cc nL own Ts) {n : Int} {v : Int32} (d : decode cc pc = .ok (.bipush n, 2)) (hv : (Int8.ofInt n).toInt32 = v) (h : V p l e R s m args below meth c w G sz cells slots Q (pc + 2) L (.int v :: st)) : V p l e R s m args below meth c w G sz cells slots Q pc L st := fun H locs ls a b q => lv_bipush k.1.1 k.1.2.1 d hv (h H locs ls a b q)
theorem V.sipush (k : Ok p s m args c w cc nL own Ts) {n : Int} {v : Int32} (d : decode cc pc = .ok (.sipush n, 3)) (hv : (Int16.ofInt n).toInt32 = v) (h : V p l e R s m args below meth c w G sz cells slots Q (pc + 3) L (.int v :: st)) : V p l e R s m args below meth c w G sz cells slots Q pc L st := fun H locs ls a b q => lv_sipush k.1.1 k.1.2.1 d hv (h H locs ls a b q)
theorem V.iload_n (k : Ok p s m args c w cc nL own Ts) {i : Fin 4} {v : Int32} (d : decode cc pc = .ok (.iload_n i, 1)) (hL : L[(i : Nat)]? = some (some (.int v))) (h : V p l e R s m args below meth c w G sz cells slots Q (pc + 1) L (.int v :: st)) : V p l e R s m args below meth c w G sz cells slots Q pc L st := fun H locs ls a b q => lv_iload_n k.1.1 k.1.2.1 d rfl (q.2.2 _ _ hL).1 (h H locs ls a b q)
theorem V.iload (k : Ok p s m args c w cc nL own Ts) {i : Nat} {v : Int32} (d : decode cc pc = .ok (.iload i, 2)) (hL : L[i]? = some (some (.int v))) (h : V p l e R s m args below meth c w G sz cells slots Q (pc + 2) L (.int v :: st)) : V p l e R s m args below meth c w G sz cells slots Q pc L st := fun H locs ls a b q => lv_iload k.1.1 k.1.2.1 d (q.2.2 _ _ hL).1 (h H locs ls a b q)
theorem V.aload_n (k : Ok p s m args c w cc nL own Ts) {i : Fin 4} {v : Nat} (d : decode cc pc = .ok (.aload_n i, 1)) (hL : L[(i : Nat)]? = some (some (.ref v))) (h : V p l e R s m args below meth c w G sz cells slots Q (pc + 1) L (.ref v :: st)) : V p l e R s m args below meth c w G sz cells slots Q pc L st := fun H locs ls a b q => lv_aload_n k.1.1 k.1.2.1 d rfl (q.2.2 _ _ hL).1 (h H locs ls a b q)
theorem V.aload (k : Ok p s m args c w cc nL own Ts) {i : Nat} {v : Nat} (d : decode cc pc = .ok (.aload i, 2)) (hL : L[i]? = some (some (.ref v))) (h : V p l e R s m args below meth c w G sz cells slots Q (pc + 2) L (.ref v :: st)) : V p l e R s m args below meth c w G sz cells slots Q pc L st := fun H locs ls a b q => lv_aload k.1.1 k.1.2.1 d (q.2.2 _ _ hL).1 (h H locs ls a b q)
theorem V.iadd (k : Ok p s m args c w cc nL own Ts) {x y v : Int32} (d : decode cc pc = .ok (.iadd, 1)) (hv : x + y = v) (h : V p l e R s m args below meth c w G sz cells slots Q (pc + 1) L (.int v :: st)) : V p l e R s m args below meth c w G sz cells slots Q pc L (.int y :: .int x :: st) := fun H locs ls a b q => by subst hv; exact lv_iadd k.1.1 k.1.2.1 d (h H locs ls a b q)
theorem V.isub (k : Ok p s m args c w cc nL own Ts) {x y v : Int32} (d : decode cc pc = .ok (.isub, 1)) (hv : x - y = v) (h : V p l e R s m args below meth c w G sz cells slots Q (pc + 1) L (.int v :: st)) : V p l e R s m args below meth c w G sz cells slots Q pc L (.int y :: .int x :: st) := fun H locs ls a b q => by subst hv; exact lv_isub k.1.1 k.1.2.1 d (h H locs ls a b q)
theorem V.imul (k : Ok p s m args c w cc nL own Ts) {x y v : Int32} (d : decode cc pc = .ok (.imul, 1)) (hv : x * y = v) (h : V p l e R s m args below meth c w G sz cells slots Q (pc + 1) L (.int v :: st)) : V p l e R s m args below meth c w G sz cells slots Q pc L (.int y :: .int x :: st) := fun H locs ls a b q => by subst hv; exact lv_imul k.1.1 k.1.2.1 d (h H locs ls a b q)
theorem V.iand (k : Ok p s m args c w cc nL own Ts) {x y v : Int32} (d : decode cc pc = .ok (.iand, 1)) (hv : x &&& y = v) (h : V p l e R s m args below meth c w G sz cells slots Q (pc + 1) L (.int v :: st)) : V p l e R s m args below meth c w G sz cells slots Q pc L (.int y :: .int x :: st) := fun H locs ls a b q => by subst hv; exact lv_iand k.1.1 k.1.2.1 d (h H locs ls a b q)
theorem V.ior (k : Ok p s m args c w cc nL own Ts) {x y v : Int32} (d : decode cc pc = .ok (.ior, 1)) (hv : x ||| y = v) (h : V p l e R s m args below meth c w G sz cells slots Q (pc + 1) L (.int v :: st)) : V p l e R s m args below meth c w G sz cells slots Q pc L (.int y :: .int x :: st) := fun H locs ls a b q => by subst hv; exact lv_ior k.1.1 k.1.2.1 d (h H locs ls a b q)
theorem V.ixor (k : Ok p s m args c w cc nL own Ts) {x y v : Int32} (d : decode cc pc = .ok (.ixor, 1)) (hv : x ^^^ y = v) (h : V p l e R s m args below meth c w G sz cells slots Q (pc + 1) L (.int v :: st)) : V p l e R s m args below meth c w G sz cells slots Q pc L (.int y :: .int x :: st) := fun H locs ls a b q => by subst hv; exact lv_ixor k.1.1 k.1.2.1 d (h H locs ls a b q)
theorem V.idiv (k : Ok p s m args c w cc nL own Ts) {x y v : Int32} (d : decode cc pc = .ok (.idiv, 1)) (hne : ¬ y = 0) (hv : x / y = v) (h : V p l e R s m args below meth c w G sz cells slots Q (pc + 1) L (.int v :: st)) : V p l e R s m args below meth c w G sz cells slots Q pc L (.int y :: .int x :: st) := fun H locs ls a b q => by subst hv; exact lv_idiv k.1.1 k.1.2.1 d hne (h H locs ls a b q)
theorem V.ishl (k : Ok p s m args c w cc nL own Ts) {x y v : Int32} (d : decode cc pc = .ok (.ishl, 1)) (hv : x <<< (y &&& 31) = v) (h : V p l e R s m args below meth c w G sz cells slots Q (pc + 1) L (.int v :: st)) : V p l e R s m args below meth c w G sz cells slots Q pc L (.int y :: .int x :: st) := fun H locs ls a b q => by subst hv; exact lv_ishl k.1.1 k.1.2.1 d (h H locs ls a b q)
theorem V.iushr (k : Ok p s m args c w cc nL own Ts) {x y v : Int32} (d : decode cc pc = .ok (.iushr, 1)) (hv : (x.toUInt32 >>> (y.toUInt32 &&& Int32.toUInt32 31)).toInt32 = v) (h : V p l e R s m args below meth c w G sz cells slots Q (pc + 1) L (.int v :: st)) : V p l e R s m args below meth c w G sz cells slots Q pc L (.int y :: .int x :: st) := fun H locs ls a b q => lv_iushr k.1.1 k.1.2.1 d hv (h H locs ls a b q)
theorem V.dup (k : Ok p s m args c w cc nL own Ts) {va : Value} (d : decode cc pc = .ok (.dup, 1)) (hva : va.category = 1) (h : V p l e R s m args below meth c w G sz cells slots Q (pc + 1) L (va :: va :: st)) : V p l e R s m args below meth c w G sz cells slots Q pc L (va :: st) := fun H locs ls a b q => lv_dup k.1.1 k.1.2.1 d hva (h H locs ls a b q)
theorem V.pop (k : Ok p s m args c w cc nL own Ts) {va : Value} (d : decode cc pc = .ok (.pop, 1)) (hva : va.category = 1) (h : V p l e R s m args below meth c w G sz cells slots Q (pc + 1) L st) : V p l e R s m args below meth c w G sz cells slots Q pc L (va :: st) := fun H locs ls a b q => lv_pop k.1.1 k.1.2.1 d hva (h H locs ls a b q)
theorem V.ldc (k : Ok p s m args c w cc nL own Ts) {i : Nat} {v : Int32} (d : decode cc pc = .ok (.ldc i, 2)) (hin : Cond.constant own i v ∈ Ts) (h : V p l e R s m args below meth c w G sz cells slots Q (pc + 2) L (.int v :: st)) : V p l e R s m args below meth c w G sz cells slots Q pc L st := fun H locs ls a b q => lv_ldc k.1.1 k.1.2.1 k.1.2.2.2.1 (k.1.2.2.2.2 _ hin) d (h H locs ls a b q)
theorem V.ldcw (k : Ok p s m args c w cc nL own Ts) {i : Nat} {v : Int32} (d : decode cc pc = .ok (.ldc_w i, 3)) (hin : Cond.constant own i v ∈ Ts) (h : V p l e R s m args below meth c w G sz cells slots Q (pc + 3) L (.int v :: st)) : V p l e R s m args below meth c w G sz cells slots Q pc L st := fun H locs ls a b q => lv_ldcw k.1.1 k.1.2.1 k.1.2.2.2.1 (k.1.2.2.2.2 _ hin) d (h H locs ls a b q)
theorem V.istore_n (k : Ok p s m args c w cc nL own Ts) {i : Fin 4} {v : Int32} {L' : List (Option Value)} (d : decode cc pc = .ok (.istore_n i, 1)) (hn : (i : Nat) < L.length) (hL : L.set (i : Nat) (some (.int v)) = L') (h : V p l e R s m args below meth c w G sz cells slots Q (pc + 1) L' st) : V p l e R s m args below meth c w G sz cells slots Q pc L (.int v :: st) := fun H locs ls a b q => by subst hL; exact lv_istore_n k.1.1 k.1.2.1 d rfl q.has hn rfl fun ls' h' => h H locs ls' a b (q.st rfl h')
theorem V.istore (k : Ok p s m args c w cc nL own Ts) {i : Nat} {v : Int32} {L' : List (Option Value)} (d : decode cc pc = .ok (.istore i, 2)) (hn : i < L.length) (hL : L.set i (some (.int v)) = L') (h : V p l e R s m args below meth c w G sz cells slots Q (pc + 2) L' st) : V p l e R s m args below meth c w G sz cells slots Q pc L (.int v :: st) := fun H locs ls a b q => by subst hL; exact lv_istore k.1.1 k.1.2.1 d q.has hn rfl fun ls' h' => h H locs ls' a b (q.st rfl h')
theorem V.astore_n (k : Ok p s m args c w cc nL own Ts) {i : Fin 4} {v : Nat} {L' : List (Option Value)} (d : decode cc pc = .ok (.astore_n i, 1)) (hn : (i : Nat) < L.length) (hL : L.set (i : Nat) (some (.ref v)) = L') (h : V p l e R s m args below meth c w G sz cells slots Q (pc + 1) L' st) : V p l e R s m args below meth c w G sz cells slots Q pc L (.ref v :: st) := fun H locs ls a b q => by subst hL; exact lv_astore_n k.1.1 k.1.2.1 d rfl q.has hn rfl fun ls' h' => h H locs ls' a b (q.st rfl h')
theorem V.astore (k : Ok p s m args c w cc nL own Ts) {i : Nat} {v : Nat} {L' : List (Option Value)} (d : decode cc pc = .ok (.astore i, 2)) (hn : i < L.length) (hL : L.set i (some (.ref v)) = L') (h : V p l e R s m args below meth c w G sz cells slots Q (pc + 2) L' st) : V p l e R s m args below meth c w G sz cells slots Q pc L (.ref v :: st) := fun H locs ls a b q => by subst hL; exact lv_astore k.1.1 k.1.2.1 d q.has hn rfl fun ls' h' => h H locs ls' a b (q.st rfl h')
theorem V.iinc (k : Ok p s m args c w cc nL own Ts) {i : Nat} {n : Int} {x v : Int32} {L' : List (Option Value)} (d : decode cc pc = .ok (.iinc i n, 3)) (hx : L[i]? = some (some (.int x))) (hv : x + Int32.ofInt n = v) (hL : L.set i (some (.int v)) = L') (h : V p l e R s m args below meth c w G sz cells slots Q (pc + 3) L' st) : V p l e R s m args below meth c w G sz cells slots Q pc L st := fun H locs ls a b q => by
  subst hL
  obtain ⟨j, hj⟩ := List.getElem?_of_mem (lvQ_mem.mpr hx)
  exact lv_iinc k.1.1 k.1.2.1 d q.has hj hv (List.getElem?_eq_some_iff.mp hx).1 rfl fun ls' h' => h H locs ls' a b (q.st rfl h')
theorem V.goto (k : Ok p s m args c w cc nL own Ts) {off : Int} {tgt : Nat} (d : decode cc pc = .ok (.goto off, 3)) (ht : (pc : Int) + off = (tgt : Int)) (h : V p l e R s m args below meth c w G sz cells slots Q tgt L st) : V p l e R s m args below meth c w G sz cells slots Q pc L st := fun H locs ls a b q => lv_goto k.1.1 k.1.2.1 d ht (h H locs ls a b q)
theorem V.if_eq (k : Ok p s m args c w cc nL own Ts) {x : Int32} {off : Int} {tgt : Nat} (d : decode cc pc = .ok (.ifCond .eq off, 3)) (ht : (pc : Int) + off = (tgt : Int)) (kt : x = 0 → V p l e R s m args below meth c w G sz cells slots Q tgt L st) (kf : ¬ x = 0 → V p l e R s m args below meth c w G sz cells slots Q (pc + 3) L st) : V p l e R s m args below meth c w G sz cells slots Q pc L (.int x :: st) := fun H locs ls a b q => lv_if_eq k.1.1 k.1.2.1 d ht (fun z => kt z H locs ls a b q) (fun z => kf z H locs ls a b q)
theorem V.icmp_eq (k : Ok p s m args c w cc nL own Ts) {x y : Int32} {off : Int} {tgt : Nat} (d : decode cc pc = .ok (.if_icmp .eq off, 3)) (ht : (pc : Int) + off = (tgt : Int)) (kt : x = y → V p l e R s m args below meth c w G sz cells slots Q tgt L st) (kf : ¬ x = y → V p l e R s m args below meth c w G sz cells slots Q (pc + 3) L st) : V p l e R s m args below meth c w G sz cells slots Q pc L (.int y :: .int x :: st) := fun H locs ls a b q => lv_icmp_eq k.1.1 k.1.2.1 d ht (fun z => kt z H locs ls a b q) (fun z => kf z H locs ls a b q)
theorem V.if_ne (k : Ok p s m args c w cc nL own Ts) {x : Int32} {off : Int} {tgt : Nat} (d : decode cc pc = .ok (.ifCond .ne off, 3)) (ht : (pc : Int) + off = (tgt : Int)) (kt : ¬ x = 0 → V p l e R s m args below meth c w G sz cells slots Q tgt L st) (kf : x = 0 → V p l e R s m args below meth c w G sz cells slots Q (pc + 3) L st) : V p l e R s m args below meth c w G sz cells slots Q pc L (.int x :: st) := fun H locs ls a b q => lv_if_ne k.1.1 k.1.2.1 d ht (fun z => kt z H locs ls a b q) (fun z => kf z H locs ls a b q)
theorem V.icmp_ne (k : Ok p s m args c w cc nL own Ts) {x y : Int32} {off : Int} {tgt : Nat} (d : decode cc pc = .ok (.if_icmp .ne off, 3)) (ht : (pc : Int) + off = (tgt : Int)) (kt : ¬ x = y → V p l e R s m args below meth c w G sz cells slots Q tgt L st) (kf : x = y → V p l e R s m args below meth c w G sz cells slots Q (pc + 3) L st) : V p l e R s m args below meth c w G sz cells slots Q pc L (.int y :: .int x :: st) := fun H locs ls a b q => lv_icmp_ne k.1.1 k.1.2.1 d ht (fun z => kt z H locs ls a b q) (fun z => kf z H locs ls a b q)
theorem V.if_lt (k : Ok p s m args c w cc nL own Ts) {x : Int32} {off : Int} {tgt : Nat} (d : decode cc pc = .ok (.ifCond .lt off, 3)) (ht : (pc : Int) + off = (tgt : Int)) (kt : x < 0 → V p l e R s m args below meth c w G sz cells slots Q tgt L st) (kf : ¬ x < 0 → V p l e R s m args below meth c w G sz cells slots Q (pc + 3) L st) : V p l e R s m args below meth c w G sz cells slots Q pc L (.int x :: st) := fun H locs ls a b q => lv_if_lt k.1.1 k.1.2.1 d ht (fun z => kt z H locs ls a b q) (fun z => kf z H locs ls a b q)
theorem V.icmp_lt (k : Ok p s m args c w cc nL own Ts) {x y : Int32} {off : Int} {tgt : Nat} (d : decode cc pc = .ok (.if_icmp .lt off, 3)) (ht : (pc : Int) + off = (tgt : Int)) (kt : x < y → V p l e R s m args below meth c w G sz cells slots Q tgt L st) (kf : ¬ x < y → V p l e R s m args below meth c w G sz cells slots Q (pc + 3) L st) : V p l e R s m args below meth c w G sz cells slots Q pc L (.int y :: .int x :: st) := fun H locs ls a b q => lv_icmp_lt k.1.1 k.1.2.1 d ht (fun z => kt z H locs ls a b q) (fun z => kf z H locs ls a b q)
theorem V.if_ge (k : Ok p s m args c w cc nL own Ts) {x : Int32} {off : Int} {tgt : Nat} (d : decode cc pc = .ok (.ifCond .ge off, 3)) (ht : (pc : Int) + off = (tgt : Int)) (kt : 0 ≤ x → V p l e R s m args below meth c w G sz cells slots Q tgt L st) (kf : ¬ 0 ≤ x → V p l e R s m args below meth c w G sz cells slots Q (pc + 3) L st) : V p l e R s m args below meth c w G sz cells slots Q pc L (.int x :: st) := fun H locs ls a b q => lv_if_ge k.1.1 k.1.2.1 d ht (fun z => kt z H locs ls a b q) (fun z => kf z H locs ls a b q)
theorem V.icmp_ge (k : Ok p s m args c w cc nL own Ts) {x y : Int32} {off : Int} {tgt : Nat} (d : decode cc pc = .ok (.if_icmp .ge off, 3)) (ht : (pc : Int) + off = (tgt : Int)) (kt : y ≤ x → V p l e R s m args below meth c w G sz cells slots Q tgt L st) (kf : ¬ y ≤ x → V p l e R s m args below meth c w G sz cells slots Q (pc + 3) L st) : V p l e R s m args below meth c w G sz cells slots Q pc L (.int y :: .int x :: st) := fun H locs ls a b q => lv_icmp_ge k.1.1 k.1.2.1 d ht (fun z => kt z H locs ls a b q) (fun z => kf z H locs ls a b q)
theorem V.if_gt (k : Ok p s m args c w cc nL own Ts) {x : Int32} {off : Int} {tgt : Nat} (d : decode cc pc = .ok (.ifCond .gt off, 3)) (ht : (pc : Int) + off = (tgt : Int)) (kt : 0 < x → V p l e R s m args below meth c w G sz cells slots Q tgt L st) (kf : ¬ 0 < x → V p l e R s m args below meth c w G sz cells slots Q (pc + 3) L st) : V p l e R s m args below meth c w G sz cells slots Q pc L (.int x :: st) := fun H locs ls a b q => lv_if_gt k.1.1 k.1.2.1 d ht (fun z => kt z H locs ls a b q) (fun z => kf z H locs ls a b q)
theorem V.icmp_gt (k : Ok p s m args c w cc nL own Ts) {x y : Int32} {off : Int} {tgt : Nat} (d : decode cc pc = .ok (.if_icmp .gt off, 3)) (ht : (pc : Int) + off = (tgt : Int)) (kt : y < x → V p l e R s m args below meth c w G sz cells slots Q tgt L st) (kf : ¬ y < x → V p l e R s m args below meth c w G sz cells slots Q (pc + 3) L st) : V p l e R s m args below meth c w G sz cells slots Q pc L (.int y :: .int x :: st) := fun H locs ls a b q => lv_icmp_gt k.1.1 k.1.2.1 d ht (fun z => kt z H locs ls a b q) (fun z => kf z H locs ls a b q)
theorem V.if_le (k : Ok p s m args c w cc nL own Ts) {x : Int32} {off : Int} {tgt : Nat} (d : decode cc pc = .ok (.ifCond .le off, 3)) (ht : (pc : Int) + off = (tgt : Int)) (kt : x ≤ 0 → V p l e R s m args below meth c w G sz cells slots Q tgt L st) (kf : ¬ x ≤ 0 → V p l e R s m args below meth c w G sz cells slots Q (pc + 3) L st) : V p l e R s m args below meth c w G sz cells slots Q pc L (.int x :: st) := fun H locs ls a b q => lv_if_le k.1.1 k.1.2.1 d ht (fun z => kt z H locs ls a b q) (fun z => kf z H locs ls a b q)
theorem V.icmp_le (k : Ok p s m args c w cc nL own Ts) {x y : Int32} {off : Int} {tgt : Nat} (d : decode cc pc = .ok (.if_icmp .le off, 3)) (ht : (pc : Int) + off = (tgt : Int)) (kt : x ≤ y → V p l e R s m args below meth c w G sz cells slots Q tgt L st) (kf : ¬ x ≤ y → V p l e R s m args below meth c w G sz cells slots Q (pc + 3) L st) : V p l e R s m args below meth c w G sz cells slots Q pc L (.int y :: .int x :: st) := fun H locs ls a b q => lv_icmp_le k.1.1 k.1.2.1 d ht (fun z => kt z H locs ls a b q) (fun z => kf z H locs ls a b q)
theorem V.tableIn (k : Ok p s m args c w cc nL own Ts) {dflt lo hi : Int} {offs : Array Int} {len : Nat} {x : Int32} {off : Int} {tgt : Nat} (d : decode cc pc = .ok (.tableswitch dflt lo hi offs, len)) (h1 : ¬ x.toInt < lo) (h2 : ¬ hi < x.toInt) (ho : offs[(x.toInt - lo).toNat]? = some off) (ht : (pc : Int) + off = (tgt : Int)) (h : V p l e R s m args below meth c w G sz cells slots Q tgt L st) : V p l e R s m args below meth c w G sz cells slots Q pc L (.int x :: st) := fun H locs ls a b q => lv_tableIn k.1.1 k.1.2.1 d h1 h2 ho ht (h H locs ls a b q)
theorem V.tableOut (k : Ok p s m args c w cc nL own Ts) {dflt lo hi : Int} {offs : Array Int} {len : Nat} {x : Int32} {tgt : Nat} (d : decode cc pc = .ok (.tableswitch dflt lo hi offs, len)) (h1 : x.toInt < lo ∨ hi < x.toInt) (ht : (pc : Int) + dflt = (tgt : Int)) (h : V p l e R s m args below meth c w G sz cells slots Q tgt L st) : V p l e R s m args below meth c w G sz cells slots Q pc L (.int x :: st) := fun H locs ls a b q => lv_tableOut k.1.1 k.1.2.1 d h1 ht (h H locs ls a b q)
theorem V.objInit (k : Ok p s m args c w cc nL own Ts) {idx : Nat} {a : Nat} (d : decode cc pc = .ok (.invokespecial idx, 3)) (h1 : Cond.methodLink own idx objectInit ∈ Ts) (h2 : Cond.instanceMethod objectInit ∈ Ts) (h3 : Cond.code objectInit ⟨#[0xb1]⟩ 1 none ∈ Ts) (hn : L.length = nL) (hf : 1 ≤ R.frames) (hl : (st.map fun v => v.category).sum + 12 ≤ R.locals) (h : V p l e R s m args below meth c w G sz cells slots Q (pc + 3) L st) : V p l e R s m args below meth c w G sz cells slots Q pc L (.ref a :: st) := fun H locs ls x y q =>
  W.objInit k.1.1 k.1.2.1 k.1.2.2.2.1 (k.1.2.2.2.2 _ h1) (k.1.2.2.2.2 _ h2) (k.1.2.2.2.2 _ h3) rfl ((q.1.trans hn).trans k.1.2.2.1.symm) rfl d hf (by show 2 * 0 + _ + 12 ≤ _; omega) (h H locs ls x y q)
theorem V.mmax (k : Ok p s m args c w cc nL own Ts) {idx : Nat} {x y v : Int32} (d : decode cc pc = .ok (.invokestatic idx, 3)) (h1 : Cond.methodLink own idx Lib.Math.max.name ∈ Ts) (h2 : Cond.static Lib.Math.max.name ∈ Ts) (h3 : Cond.initialized "java/lang/Math" ∈ Ts) (h4 : Cond.code Lib.Math.max.name Lib.Math.max.code 2 (some .int) ∈ Ts) (hn : L.length = nL) (hf : 1 ≤ R.frames) (hl : (st.map fun v => v.category).sum + 13 ≤ R.locals) (hc : cells ≤ R.cells) (hs : slots ≤ R.slots) (hv : (if x < y then y else x) = v) (h : V p l e R s m args below meth c w G sz cells slots Q (pc + 3) L (.int v :: st)) : V p l e R s m args below meth c w G sz cells slots Q pc L (.int y :: .int x :: st) := fun H locs ls a b q => by
  subst hv
  exact va_mmax k.1.1 k.1.2.1 (k.1.2.2.1.trans (q.1.trans hn).symm) k.1.2.2.2.1 (k.1.2.2.2.2 _ h1) (k.1.2.2.2.2 _ h2) (k.1.2.2.2.2 _ h3) (k.1.2.2.2.2 _ h4) hf hl hc hs d (h H locs ls a b q)
theorem V.mmin (k : Ok p s m args c w cc nL own Ts) {idx : Nat} {x y v : Int32} (d : decode cc pc = .ok (.invokestatic idx, 3)) (h1 : Cond.methodLink own idx Lib.Math.min.name ∈ Ts) (h2 : Cond.static Lib.Math.min.name ∈ Ts) (h3 : Cond.initialized "java/lang/Math" ∈ Ts) (h4 : Cond.code Lib.Math.min.name Lib.Math.min.code 2 (some .int) ∈ Ts) (hn : L.length = nL) (hf : 1 ≤ R.frames) (hl : (st.map fun v => v.category).sum + 13 ≤ R.locals) (hc : cells ≤ R.cells) (hs : slots ≤ R.slots) (hv : (if y < x then y else x) = v) (h : V p l e R s m args below meth c w G sz cells slots Q (pc + 3) L (.int v :: st)) : V p l e R s m args below meth c w G sz cells slots Q pc L (.int y :: .int x :: st) := fun H locs ls a b q => by
  subst hv
  exact va_mmin k.1.1 k.1.2.1 (k.1.2.2.1.trans (q.1.trans hn).symm) k.1.2.2.2.1 (k.1.2.2.2.2 _ h1) (k.1.2.2.2.2 _ h2) (k.1.2.2.2.2 _ h3) (k.1.2.2.2.2 _ h4) hf hl hc hs d (h H locs ls a b q)
theorem V.getf (k : Ok p s m args c w cc nL own Ts) {idx a ci j : Nat} {fs : List Value} {v : Value} (d : decode cc pc = .ok (.getfield idx, 3)) (hF : FL Ts own idx ci j) (hG : G a = some (gO ci fs)) (hv : fs[j]? = some v) (h : V p l e R s m args below meth c w G sz cells slots Q (pc + 3) L (v :: st)) : V p l e R s m args below meth c w G sz cells slots Q pc L (.ref a :: st) := fun H locs ls x y q => by
  obtain ⟨C, T, N, hc, hin, hj, hl, hs⟩ := hF
  exact va_get k.1.1 k.1.2.1 k.1.2.2.2.2 hin k.1.2.2.2.1 k.2.1 (x.one hG) 0 rfl hc j hj (k.1.2.2.2.2 _ hl) (fun z hz => by rw [hs] at hz; exact hz) hv d (h H locs ls x y q)
theorem V.putf (k : Ok p s m args c w cc nL own Ts) {idx a ci j : Nat} {fs fs' : List Value} {v : Value} {ty : FieldType} (d : decode cc pc = .ok (.putfield idx, 3)) (hF : FL Ts own idx ci j) (hT : FT ci j ty false) (hG : G a = some (gO ci fs)) (hn : narrow ty v = v) (hfit : fits ty v = true) (hl : j < fs.length) (hfs : fs.set j v = fs') (h : V p l e R s m args below meth c w (gup G a (gO ci fs')) sz cells slots Q (pc + 3) L st) : V p l e R s m args below meth c w G sz cells slots Q pc L (v :: .ref a :: st) := fun H locs ls x y q => by
  subst hfs
  obtain ⟨C, T, N, hc, hin, hj, hlk, hs⟩ := hF
  obtain ⟨C', T', N', hc', ⟨ty0, hty⟩, hnm, hfin, hd⟩ := hT
  cases hc.symm.trans hc'
  have hK := k.2.1
  have hts := k.1.2.2.2.2
  have hap := va_apart (own := own) hts hin ty0 hty hnm hK hc
  obtain ⟨ha1, r, h1, cell, q1, q2, q3, q4⟩ := x.2.2 a _ hG
  cases h1.symm.trans hc
  obtain ⟨hS, hfc, kC, hkC, hkind⟩ := hK.1 ci _ hc
  obtain ⟨cf, kf, fi, f, hi, hsl⟩ := hS j hj
  have hlay := hts _ (hin _ (u_in_lay hj))
  unfold u_lay at hlay
  rw [if_neg (by rw [hfin]; decide)] at hlay
  have hst := (u_facts hfc hkC (u_lays hts hin hj) hi).1
  have h6 := u_store hfc hkC hkind hlay hi hd hn hfit
  refine W.putK k.1.1 k.1.2.1 (f := f) ⟨k.1.2.2.2.1, hts _ hlk, ⟨_, _, _, by rw [hs] at hi; exact hi⟩, hst⟩ (by rw [q2]; exact h6) q1 q3 (by rw [hsl]; exact k2_hasslot (q4 j hj)) rfl rfl d fun H' e1 e2 e3 => ?_
  rw [hsl] at e1 ⊢
  exact h H' _ ls (x.put hG e2 ⟨_, hc, t_OB.to (V := updV (vp_V fs) j v) ⟨_, e1, q2, q3, t_set q4 hap hj v⟩ (fun i _ => vp_updV_set hl v i)⟩ e3) (y.put e2 e3 ha1) q
theorem V.putF (k : Ok p s m args c w cc nL own Ts) {idx a ci j : Nat} {fs fs' : List Value} {v : Value} {ty : FieldType} {C0 : String} (d : decode cc pc = .ok (.putfield idx, 3)) (hF : FL Ts own idx ci j) (hT : FT ci j ty true) (hcl : (vwCl[ci]?.map fun r => r.1) = some own) (hinit : meth.name = "<init>") (hG : G a = some (gO ci fs)) (hn : narrow ty v = v) (hfit : fits ty v = true) (hl : j < fs.length) (hfs : fs.set j v = fs') (h : V p l e R s m args below meth c w (gup G a (gO ci fs')) sz cells slots Q (pc + 3) L st) : V p l e R s m args below meth c w G sz cells slots Q pc L (v :: .ref a :: st) := fun H locs ls x y q => by
  subst hfs
  obtain ⟨C, T, N, hc, hin, hj, hlk, hs⟩ := hF
  obtain ⟨C', T', N', hc', ⟨ty0, hty⟩, hnm, hfin, hd⟩ := hT
  cases hc.symm.trans hc'
  rw [hc] at hcl
  have hCo : C = own := by simpa using hcl
  have hK := k.2.1
  have hts := k.1.2.2.2.2
  have hap := va_apart (own := own) hts hin ty0 hty hnm hK hc
  obtain ⟨ha1, r, h1, cell, q1, q2, q3, q4⟩ := x.2.2 a _ hG
  cases h1.symm.trans hc
  obtain ⟨hS, hfc, kC, hkC, hkind⟩ := hK.1 ci _ hc
  obtain ⟨cf, kf, fi, f, hi, hsl⟩ := hS j hj
  have hlay := hts _ (hin _ (u_in_lay hj))
  unfold u_lay at hlay
  rw [if_pos hfin] at hlay
  have hst := (u_facts hfc hkC (u_lays hts hin hj) hi).1
  have hcf : m.cls = cf := by
    obtain ⟨_, _, c', _, _, _, -, -, hf', -, -, -, hown2, -⟩ := Cond.laysFinal_spec hlay
    have e1 : c' = cf := by have := hi.symm.trans hf'; simp at this; exact this.1.symm
    rw [hs, hCo] at hown2
    rw [← e1]; exact Option.some.inj (k.1.2.2.2.1.symm.trans hown2)
  have h6 := u_fits hfc hkC hkind (Or.inr hlay) hi hd hn hfit
  refine W.putFinK k.1.1 k.1.2.1 k.1.2.2.2.1 (hts _ hlk) (by rw [hs] at hi; exact hi) hst hcf hinit (by rw [q2]; exact h6) q1 q3 (by rw [hsl]; exact k2_hasslot (q4 j hj)) rfl rfl d fun H' e1 e2 e3 => ?_
  rw [hsl] at e1 ⊢
  exact h H' _ ls (x.put hG e2 ⟨_, hc, t_OB.to (V := updV (vp_V fs) j v) ⟨_, e1, q2, q3, t_set q4 hap hj v⟩ (fun i _ => vp_updV_set hl v i)⟩ e3) (y.put e2 e3 ha1) q
theorem nI_inN {j n : Nat} (h : j < n) (hn : n < 2 ^ 31) : vp_in (nI j) n := vp_in_nI h hn

theorem V.iald (k : Ok p s m args c w cc nL own Ts) {a n j : Nat} {f : Nat → Int32} {i v : Int32} (d : decode cc pc = .ok (.iaload, 1)) (hG : G a = some (gI n f)) (hi : i = nI j) (hj : j < n) (hn : n < 2 ^ 31) (hv : f j = v) (h : V p l e R s m args below meth c w G sz cells slots Q (pc + 1) L (.int v :: st)) : V p l e R s m args below meth c w G sz cells slots Q pc L (.int i :: .ref a :: st) := fun H locs ls x y q => by
  subst hv; subst hi
  have h1 := h H locs ls x y q
  have e : (nI j).toNatClampNeg = j := nI_clamp (by omega)
  exact va_iald k.1.1 k.1.2.1 k.2.1 (x.one hG) 0 0 rfl rfl (nI_inN hj hn) d (by rw [e]; exact h1)
theorem V.zald (k : Ok p s m args c w cc nL own Ts) {a n j : Nat} {f : Nat → Int32} {i v : Int32} (d : decode cc pc = .ok (.baload, 1)) (hG : G a = some (gZ n f)) (hi : i = nI j) (hj : j < n) (hn : n < 2 ^ 31) (hv : f j = v) (h : V p l e R s m args below meth c w G sz cells slots Q (pc + 1) L (.int v :: st)) : V p l e R s m args below meth c w G sz cells slots Q pc L (.int i :: .ref a :: st) := fun H locs ls x y q => by
  subst hv; subst hi
  have h1 := h H locs ls x y q
  have e : (nI j).toNatClampNeg = j := nI_clamp (by omega)
  exact va_zald k.1.1 k.1.2.1 k.2.1 (x.one hG) 0 1 rfl rfl (nI_inN hj hn) d (by rw [e]; exact h1)
theorem V.bald (k : Ok p s m args c w cc nL own Ts) {a n j b : Nat} {f : Nat → Option Nat} {i : Int32} (d : decode cc pc = .ok (.aaload, 1)) (hG : G a = some (gB n f)) (hi : i = nI j) (hj : j < n) (hn : n < 2 ^ 31) (hv : f j = some b) (h : V p l e R s m args below meth c w G sz cells slots Q (pc + 1) L (.ref b :: st)) : V p l e R s m args below meth c w G sz cells slots Q pc L (.int i :: .ref a :: st) := fun H locs ls x y q => by
  subst hi
  have h1 := h H locs ls x y q
  have e : (nI j).toNatClampNeg = j := nI_clamp (by omega)
  exact va_aldq k.1.1 k.1.2.1 k.2.1 (x.one hG) 0 2 rfl rfl (nI_inN hj hn) d (by rw [e, hv]; exact h1)
theorem V.sald (k : Ok p s m args c w cc nL own Ts) {a n j b : Nat} {f : Nat → Option Nat} {i : Int32} (d : decode cc pc = .ok (.aaload, 1)) (hG : G a = some (gS n f)) (hi : i = nI j) (hj : j < n) (hn : n < 2 ^ 31) (hv : f j = some b) (h : V p l e R s m args below meth c w G sz cells slots Q (pc + 1) L (.ref b :: st)) : V p l e R s m args below meth c w G sz cells slots Q pc L (.int i :: .ref a :: st) := fun H locs ls x y q => by
  subst hi
  have h1 := h H locs ls x y q
  have e : (nI j).toNatClampNeg = j := nI_clamp (by omega)
  exact va_aldq k.1.1 k.1.2.1 k.2.1 (x.one hG) 0 3 rfl rfl (nI_inN hj hn) d (by rw [e, hv]; exact h1)
theorem V.alenI (k : Ok p s m args c w cc nL own Ts) {a n : Nat} {f : Nat → Int32} (d : decode cc pc = .ok (.arraylength, 1)) (hG : G a = some (gI n f)) (h : V p l e R s m args below meth c w G sz cells slots Q (pc + 1) L (.int (nI n) :: st)) : V p l e R s m args below meth c w G sz cells slots Q pc L (.ref a :: st) := fun H locs ls x y q => va_alen k.1.1 k.1.2.1 k.2.1 (x.one hG) 0 0 rfl rfl rfl d (h H locs ls x y q)
theorem V.alenZ (k : Ok p s m args c w cc nL own Ts) {a n : Nat} {f : Nat → Int32} (d : decode cc pc = .ok (.arraylength, 1)) (hG : G a = some (gZ n f)) (h : V p l e R s m args below meth c w G sz cells slots Q (pc + 1) L (.int (nI n) :: st)) : V p l e R s m args below meth c w G sz cells slots Q pc L (.ref a :: st) := fun H locs ls x y q => va_alen k.1.1 k.1.2.1 k.2.1 (x.one hG) 0 1 rfl rfl rfl d (h H locs ls x y q)
theorem V.alenB (k : Ok p s m args c w cc nL own Ts) {a n : Nat} {f : Nat → Option Nat} (d : decode cc pc = .ok (.arraylength, 1)) (hG : G a = some (gB n f)) (h : V p l e R s m args below meth c w G sz cells slots Q (pc + 1) L (.int (nI n) :: st)) : V p l e R s m args below meth c w G sz cells slots Q pc L (.ref a :: st) := fun H locs ls x y q => va_alen k.1.1 k.1.2.1 k.2.1 (x.one hG) 0 2 rfl rfl rfl d (h H locs ls x y q)
theorem V.alenS (k : Ok p s m args c w cc nL own Ts) {a n : Nat} {f : Nat → Option Nat} (d : decode cc pc = .ok (.arraylength, 1)) (hG : G a = some (gS n f)) (h : V p l e R s m args below meth c w G sz cells slots Q (pc + 1) L (.int (nI n) :: st)) : V p l e R s m args below meth c w G sz cells slots Q pc L (.ref a :: st) := fun H locs ls x y q => va_alen k.1.1 k.1.2.1 k.2.1 (x.one hG) 0 3 rfl rfl rfl d (h H locs ls x y q)
theorem V.iast (k : Ok p s m args c w cc nL own Ts) {a n j : Nat} {f f' : Nat → Int32} {i x : Int32} (d : decode cc pc = .ok (.iastore, 1)) (hG : G a = some (gI n f)) (hi : i = nI j) (hj : j < n) (hn : n < 2 ^ 31) (hf : upd f j x = f') (h : V p l e R s m args below meth c w (gup G a (gI n f')) sz cells slots Q (pc + 1) L st) : V p l e R s m args below meth c w G sz cells slots Q pc L (.int x :: .int i :: .ref a :: st) := fun H locs ls X y q => by
  subst hf; subst hi
  obtain ⟨ha1, ha2⟩ := X.2.2 a _ hG
  have e : (nI j).toNatClampNeg = j := nI_clamp (by omega)
  refine W.iast k.1.1 k.1.2.1 (show H[a]? = some (arrV (w.2.1 0) n (fun j => .int (f j))) from ha2) ((k.2.1.2 0 _ rfl).1 n (fun j => .int (f j))) (fun q => by cases q) (by rw [arrV_size]; exact nI_inN hj hn) rfl rfl d fun H1 e1 z oq => ?_
  refine h H1 _ ls (X.put hG z ?_ oq) (y.put z oq ha1) q
  show H1[a]? = some (vp_cell _ _)
  rw [e1, e]
  rw [vp_cell_i, arrV_store]
  congr 2
  funext i
  by_cases hq : i = j
  · subst hq; simp [updV, upd]
  · simp [updV, upd, hq]
theorem V.zast (k : Ok p s m args c w cc nL own Ts) {a n j : Nat} {f f' : Nat → Int32} {i x : Int32} (d : decode cc pc = .ok (.bastore, 1)) (hG : G a = some (gZ n f)) (hi : i = nI j) (hj : j < n) (hn : n < 2 ^ 31) (hx : narrow .boolean (.int x) = .int x) (hf : upd f j x = f') (h : V p l e R s m args below meth c w (gup G a (gZ n f')) sz cells slots Q (pc + 1) L st) : V p l e R s m args below meth c w G sz cells slots Q pc L (.int x :: .int i :: .ref a :: st) := fun H locs ls X y q => by
  subst hf; subst hi
  obtain ⟨ha1, ha2⟩ := X.2.2 a _ hG
  have e : (nI j).toNatClampNeg = j := nI_clamp (by omega)
  refine W.zast k.1.1 k.1.2.1 (show H[a]? = some (arrV (w.2.1 1) n (fun j => .int (f j))) from ha2) ((k.2.1.2 1 _ rfl).1 n (fun j => .int (f j))) (fun q => by cases q) (by rw [arrV_size]; exact nI_inN hj hn) rfl rfl d fun H1 e1 z oq => ?_
  refine h H1 _ ls (X.put hG z ?_ oq) (y.put z oq ha1) q
  show H1[a]? = some (vp_cell _ _)
  rw [e1, e, hx]
  rw [vp_cell_i, arrV_store]
  congr 2
  funext i
  by_cases hq : i = j
  · subst hq; simp [updV, upd]
  · simp [updV, upd, hq]
theorem V.bast (k : Ok p s m args c w cc nL own Ts) {a n j b : Nat} {f f' : Nat → Option Nat} {i : Int32} {vs : List Value} (d : decode cc pc = .ok (.aastore, 1)) (hG : G a = some (gB n f)) (hb : G b = some (gO 0 vs)) (hi : i = nI j) (hj : j < n) (hn : n < 2 ^ 31) (hf : va_up f j (some b) = f') (h : V p l e R s m args below meth c w (gup G a (gB n f')) sz cells slots Q (pc + 1) L st) : V p l e R s m args below meth c w G sz cells slots Q pc L (.ref b :: .int i :: .ref a :: st) := fun H locs ls X y q => by
  subst hf; subst hi
  obtain ⟨ha1, ha2⟩ := X.2.2 a _ hG
  have e : (nI j).toNatClampNeg = j := nI_clamp (by omega)
  obtain ⟨-, r', hr', cellV, g1, g2, g3, -⟩ := X.2.2 b _ hb
  have hcls := (k.2.1.1 0 _ rfl).2
  obtain ⟨kA, comp, k1, k2, k3, -⟩ := (k.2.1.2 2 _ rfl).2
  have hcomp : comp = w.1.1 0 := Option.some.inj (k3.symm.trans hcls.1)
  subst hcomp
  obtain ⟨kC, hkC, -⟩ := hcls.2
  have h0 : ¬ nI j < 0 := nI_pos (by omega)
  refine W.aast k.1.1 k.1.2.1 (show H[a]? = some (arrV (w.2.1 2) n (fun j => va_rf (f j))) from ha2) (fun q h => by cases h) (fun h => by cases h) k1 k2 rfl hkC ⟨h0, by rw [arrV_size, e]; exact hj⟩ g1 (fun q h => by rw [g3] at h; cases h) (by rw [g2]; exact hkC) (by rw [g2]; exact va_assign hcls) rfl rfl d fun H1 e1 z oq => ?_
  refine h H1 _ ls (X.put hG z ?_ oq) (y.put z oq ha1) q
  show H1[a]? = some (vp_cell _ _)
  rw [e1, e]
  rw [vp_cell_q, arrV_store]
  congr 2
  funext i
  by_cases hq : i = j
  · subst hq; simp [updV, va_up, va_rf]
  · simp [updV, va_up, hq]
theorem V.sast (k : Ok p s m args c w cc nL own Ts) {a n j b : Nat} {f f' : Nat → Option Nat} {i : Int32} {vs : List Value} (d : decode cc pc = .ok (.aastore, 1)) (hG : G a = some (gS n f)) (hb : G b = some (gO 1 vs)) (hi : i = nI j) (hj : j < n) (hn : n < 2 ^ 31) (hf : va_up f j (some b) = f') (h : V p l e R s m args below meth c w (gup G a (gS n f')) sz cells slots Q (pc + 1) L st) : V p l e R s m args below meth c w G sz cells slots Q pc L (.ref b :: .int i :: .ref a :: st) := fun H locs ls X y q => by
  subst hf; subst hi
  obtain ⟨ha1, ha2⟩ := X.2.2 a _ hG
  have e : (nI j).toNatClampNeg = j := nI_clamp (by omega)
  obtain ⟨-, r', hr', cellV, g1, g2, g3, -⟩ := X.2.2 b _ hb
  have hcls := (k.2.1.1 1 _ rfl).2
  obtain ⟨kA, comp, k1, k2, k3, -⟩ := (k.2.1.2 3 _ rfl).2
  have hcomp : comp = w.1.1 1 := Option.some.inj (k3.symm.trans hcls.1)
  subst hcomp
  obtain ⟨kC, hkC, -⟩ := hcls.2
  have h0 : ¬ nI j < 0 := nI_pos (by omega)
  refine W.aast k.1.1 k.1.2.1 (show H[a]? = some (arrV (w.2.1 3) n (fun j => va_rf (f j))) from ha2) (fun q h => by cases h) (fun h => by cases h) k1 k2 rfl hkC ⟨h0, by rw [arrV_size, e]; exact hj⟩ g1 (fun q h => by rw [g3] at h; cases h) (by rw [g2]; exact hkC) (by rw [g2]; exact va_assign hcls) rfl rfl d fun H1 e1 z oq => ?_
  refine h H1 _ ls (X.put hG z ?_ oq) (y.put z oq ha1) q
  show H1[a]? = some (vp_cell _ _)
  rw [e1, e]
  rw [vp_cell_q, arrV_store]
  congr 2
  funext i
  by_cases hq : i = j
  · subst hq; simp [updV, va_up, va_rf]
  · simp [updV, va_up, hq]
theorem V.sld (k : Ok p s m args c w cc nL own Ts) {b L0 j : Nat} {xs : Nat → Int32} {i : Int32} (d : decode cc pc = .ok (.iaload, 1)) (hX : va_X b L0 xs s s.heap) (hb : b < s.heap.size) (hbw : b < w.2.2) (hi : i = nI j) (hj : j < L0) (hn : L0 < 2 ^ 31) (h : V p l e R s m args below meth c w G sz cells slots Q (pc + 1) L (.int (xs j) :: st)) : V p l e R s m args below meth c w G sz cells slots Q pc L (.int i :: .ref b :: st) := fun H locs ls X y q => by
  subst hi
  have h1 := h H locs ls X y q
  have e : (nI j).toNatClampNeg = j := nI_clamp (by omega)
  exact va_sld k.1.1 k.1.2.1 hX hb (show ¬ w.2.2 ≤ b by omega) y (nI_inN hj hn) d (by rw [e]; exact h1)
theorem V.slen (k : Ok p s m args c w cc nL own Ts) {b L0 : Nat} {xs : Nat → Int32} (d : decode cc pc = .ok (.arraylength, 1)) (hX : va_X b L0 xs s s.heap) (hb : b < s.heap.size) (hbw : b < w.2.2) (h : V p l e R s m args below meth c w G sz cells slots Q (pc + 1) L (.int (nI L0) :: st)) : V p l e R s m args below meth c w G sz cells slots Q pc L (.ref b :: st) := fun H locs ls X y q =>
  va_slen k.1.1 k.1.2.1 hX hb (show ¬ w.2.2 ≤ b by omega) y d (h H locs ls X y q)
theorem V.new (k : Ok p s m args c w cc nL own Ts) {idx ci N : Nat} {C : String} {T : u_T} {ty : Nat → FieldType} {fs : List Value} (d : decode cc pc = .ok (.new idx, 3)) (hc : vwCl[ci]? = some (C, T, N)) (hin : ∀ w ∈ u_ws C T N, w ∈ Ts) (hty : ∀ k, k < N → parseFieldDescriptor (T k).2.2.1 = some (ty k)) (h1 : Cond.classLink own idx C ∈ Ts) (h2 : Cond.instantiable C N ∈ Ts) (h3 : Cond.initialized C ∈ Ts) (hfs : ∀ j, j < N → defaultValue (ty j) = vp_V fs j) (hce : cells + 1 ≤ R.cells) (hsl : slots + N ≤ R.slots) (h : V p l e R s m args below meth c w (gup G sz (gO ci fs)) (sz + 1) (cells + 1) (slots + N) Q (pc + 3) L (.ref sz :: st)) : V p l e R s m args below meth c w G sz cells slots Q pc L st := fun H locs ls X y q => by
  have hKn := k.2.1.1 ci _ hc
  refine W.newcK k.1.1 k.1.2.1 k.1.2.2.2.1 (k.1.2.2.2.2 _ h1) (k.1.2.2.2.2 _ h2) (k.1.2.2.2.2 _ h3) rfl d hce hsl hKn.2.1 X.1 fun H1 kC hkC e1 z1 o1 => ?_
  exact h H1 locs ls (X.push z1 ⟨_, hc, (u_born ty k.1.2.2.2.2 hin hKn hkC e1 hty).to hfs⟩ o1) (y.mk1 X.1 z1 o1) q
theorem V.newI (k : Ok p s m args c w cc nL own Ts) {n : Nat} {i : Int32} (d : decode cc pc = .ok (.newarray .int, 2)) (hi : i = nI n) (h1 : Cond.arrayClass .int ∈ Ts) (hn : n ≤ 100000) (hce : cells + 1 ≤ R.cells) (hsl : slots + n ≤ R.slots) (h : V p l e R s m args below meth c w (gup G sz (gI n (fun _ => 0))) (sz + 1) (cells + 1) (slots + n) Q (pc + 2) L (.ref sz :: st)) : V p l e R s m args below meth c w G sz cells slots Q pc L (.int i :: st) := fun H locs ls X y q => by
  subst hi
  refine va_newaK (N := n) k.1.1 k.1.2.1 (atype := .int) (k.1.2.2.2.2 _ h1) rfl d rfl (nI_pos (by omega)) (nI_clamp (by omega)) (by show n * 4 ≤ _; omega) hce hsl X.1 fun H1 cA e1 z1 o1 hAr hNm => ?_
  have hcA : cA = w.2.1 0 := by
    have h9 : s.vm.findClass ("[" ++ (newarray.typeOf .int).toString) = some (w.2.1 0) := (k.2.1.2 0 _ rfl).2
    exact Option.some.inj (hNm.symm.trans h9)
  subst hcA
  exact h H1 locs ls (X.push z1 e1 o1) (y.mk1 X.1 z1 o1) q
theorem V.newZ (k : Ok p s m args c w cc nL own Ts) {n : Nat} {i : Int32} (d : decode cc pc = .ok (.newarray .boolean, 2)) (hi : i = nI n) (h1 : Cond.arrayClass .boolean ∈ Ts) (hn : n ≤ 100000) (hce : cells + 1 ≤ R.cells) (hsl : slots + n ≤ R.slots) (h : V p l e R s m args below meth c w (gup G sz (gZ n (fun _ => 0))) (sz + 1) (cells + 1) (slots + n) Q (pc + 2) L (.ref sz :: st)) : V p l e R s m args below meth c w G sz cells slots Q pc L (.int i :: st) := fun H locs ls X y q => by
  subst hi
  refine va_newaK (N := n) k.1.1 k.1.2.1 (atype := .boolean) (k.1.2.2.2.2 _ h1) rfl d rfl (nI_pos (by omega)) (nI_clamp (by omega)) (by show n * 1 ≤ _; omega) hce hsl X.1 fun H1 cA e1 z1 o1 hAr hNm => ?_
  have hcA : cA = w.2.1 1 := by
    have h9 : s.vm.findClass ("[" ++ (newarray.typeOf .boolean).toString) = some (w.2.1 1) := (k.2.1.2 1 _ rfl).2
    exact Option.some.inj (hNm.symm.trans h9)
  subst hcA
  exact h H1 locs ls (X.push z1 e1 o1) (y.mk1 X.1 z1 o1) q
theorem V.newB (k : Ok p s m args c w cc nL own Ts) {idx n : Nat} {i : Int32} (d : decode cc pc = .ok (.anewarray idx, 3)) (hi : i = nI n) (h1 : Cond.classLink own idx RX0 ∈ Ts) (hn : n ≤ 100000) (hce : cells + 1 ≤ R.cells) (hsl : slots + n ≤ R.slots) (h : V p l e R s m args below meth c w (gup G sz (gB n (fun _ => none))) (sz + 1) (cells + 1) (slots + n) Q (pc + 3) L (.ref sz :: st)) : V p l e R s m args below meth c w G sz cells slots Q pc L (.int i :: st) := fun H locs ls X y q => by
  subst hi
  have en : (nI n).toNatClampNeg = n := nI_clamp (by omega)
  refine W.anew k.1.1 k.1.2.1 k.1.2.2.2.1 (k.1.2.2.2.2 _ h1) (va_AO.use k.2.2.1) rfl d rfl (nI_pos (by omega)) (by rw [en]; omega) hce (by rw [en]; exact hsl) fun cA kA comp f1 f2 f3 f4 => ?_
  rw [en]
  generalize hH1 : H.push ({ cls := cA, slots := Array.replicate n .null, vm := .none } : Cell) = H1
  have z1 : H1.size = sz + 1 := by rw [← hH1, Array.size_push, X.1]
  have e1 : H1[sz]? = some (arrV cA n (fun _ => .null)) := by rw [← hH1, ← X.1, Array.getElem?_push_size, ← arrV_new]
  have o1 : ∀ q : Nat, q < sz → H1[q]? = H[q]? := fun q hq => by rw [← hH1, Array.getElem?_push, if_neg (by rw [X.1]; omega)]
  have hcA : cA = w.2.1 2 := by
    obtain ⟨kA', comp', g1, g2, g3, g4⟩ := (k.2.1.2 2 _ rfl).2
    exact Option.some.inj (f1.symm.trans g4)
  subst hcA
  have e0 : H.size = sz := X.1
  rw [e0]
  exact h H1 locs ls (X.push z1 (by show H1[sz]? = some (vp_cell _ _); rw [vp_cell_q]; exact e1) o1) (y.mk1 X.1 z1 o1) q
theorem V.newS (k : Ok p s m args c w cc nL own Ts) {idx n : Nat} {i : Int32} (d : decode cc pc = .ok (.anewarray idx, 3)) (hi : i = nI n) (h1 : Cond.classLink own idx RX1 ∈ Ts) (hn : n ≤ 100000) (hce : cells + 1 ≤ R.cells) (hsl : slots + n ≤ R.slots) (h : V p l e R s m args below meth c w (gup G sz (gS n (fun _ => none))) (sz + 1) (cells + 1) (slots + n) Q (pc + 3) L (.ref sz :: st)) : V p l e R s m args below meth c w G sz cells slots Q pc L (.int i :: st) := fun H locs ls X y q => by
  subst hi
  have en : (nI n).toNatClampNeg = n := nI_clamp (by omega)
  refine W.anew k.1.1 k.1.2.1 k.1.2.2.2.1 (k.1.2.2.2.2 _ h1) (va_AO.use k.2.2.2) rfl d rfl (nI_pos (by omega)) (by rw [en]; omega) hce (by rw [en]; exact hsl) fun cA kA comp f1 f2 f3 f4 => ?_
  rw [en]
  generalize hH1 : H.push ({ cls := cA, slots := Array.replicate n .null, vm := .none } : Cell) = H1
  have z1 : H1.size = sz + 1 := by rw [← hH1, Array.size_push, X.1]
  have e1 : H1[sz]? = some (arrV cA n (fun _ => .null)) := by rw [← hH1, ← X.1, Array.getElem?_push_size, ← arrV_new]
  have o1 : ∀ q : Nat, q < sz → H1[q]? = H[q]? := fun q hq => by rw [← hH1, Array.getElem?_push, if_neg (by rw [X.1]; omega)]
  have hcA : cA = w.2.1 3 := by
    obtain ⟨kA', comp', g1, g2, g3, g4⟩ := (k.2.1.2 3 _ rfl).2
    exact Option.some.inj (f1.symm.trans g4)
  subst hcA
  have e0 : H.size = sz := X.1
  rw [e0]
  exact h H1 locs ls (X.push z1 (by show H1[sz]? = some (vp_cell _ _); rw [vp_cell_q]; exact e1) o1) (y.mk1 X.1 z1 o1) q
theorem V.dropL (i : Nat) {L' : List (Option Value)} (hL : L.set i none = L') (h : V p l e R s m args below meth c w G sz cells slots Q pc L' st) : V p l e R s m args below meth c w G sz cells slots Q pc L st := fun H locs ls X y q => by
  subst hL
  refine h H locs ls X y ⟨by rw [List.length_set]; exact q.1, q.2.1, fun j v hj => ?_⟩
  rw [List.getElem?_set] at hj
  split at hj
  · split at hj <;> simp at hj
  · exact q.2.2 j v hj
theorem V.post {post : Option Value → Pic → Nat → Prop} {v : Option Value} {H : Heap} {locs : List Loc} (k : wK w s) (X : HG w G sz H) (y : va_S (wA w) s.heap H locs) (hp : post v G sz) (t : State) (ht : t.heap = H) (hW : s.WarmedH t.vm) : gQc w post args s (.returned v) t :=
  ⟨⟨v, G, sz, rfl, hp, by rw [ht]; exact X, k.moved hW.alike⟩, y.F ht⟩
theorem V.iret (k : Ok p s m args c w cc nL own Ts) {nm : String} {post : Option Value → Pic → Nat → Prop} {v : Int32} (hM : Mi meth (some .int) nm) (d : decode cc pc = .ok (.ireturn, 1)) (hc : cells ≤ R.cells) (hs : slots ≤ R.slots) (hp : post (some (.int v)) G sz) : V p l e R s m args below meth c w G sz cells slots (mQ w below args s R post) pc L [.int v] := fun H locs ls X y q =>
  W.widen hc hs (W.iret k.1.1 k.1.2.1 hM.1 (fun t ht hW => V.post k.2 X y hp t ht hW) y.2.2 d hM.2.1)
theorem V.zret (k : Ok p s m args c w cc nL own Ts) {nm : String} {post : Option Value → Pic → Nat → Prop} {v : Int32} (hM : Mi meth (some .boolean) nm) (d : decode cc pc = .ok (.ireturn, 1)) (hn : narrow .boolean (.int v) = .int v) (hc : cells ≤ R.cells) (hs : slots ≤ R.slots) (hp : post (some (.int v)) G sz) : V p l e R s m args below meth c w G sz cells slots (mQ w below args s R post) pc L [.int v] := fun H locs ls X y q =>
  W.widen hc hs (W.zret k.1.1 k.1.2.1 hM.1 hn (fun t ht hW => V.post k.2 X y hp t ht hW) y.2.2 d hM.2.1)
theorem V.vret (k : Ok p s m args c w cc nL own Ts) {nm : String} {post : Option Value → Pic → Nat → Prop} (hM : Mi meth none nm) (d : decode cc pc = .ok (.return_, 1)) (hc : cells ≤ R.cells) (hs : slots ≤ R.slots) (hp : post none G sz) : V p l e R s m args below meth c w G sz cells slots (mQ w below args s R post) pc L [] := fun H locs ls X y q =>
  W.widen hc hs (W.vret k.1.1 k.1.2.1 hM.1 (fun t ht hW => V.post k.2 X y hp t ht hW) y.2.2 d hM.2.1)
theorem V.aret (k : Ok p s m args c w cc nL own Ts) {nm : String} {C : String} {post : Option Value → Pic → Nat → Prop} {a : Nat} (hM : Mi meth (some (.object C)) nm) (d : decode cc pc = .ok (.areturn, 1)) (hc : cells ≤ R.cells) (hs : slots ≤ R.slots) (hp : post (some (.ref a)) G sz) : V p l e R s m args below meth c w G sz cells slots (mQ w below args s R post) pc L [.ref a] := fun H locs ls X y q =>
  W.widen hc hs (W.aret k.1.1 k.1.2.1 hM.1 (Or.inl ⟨_, rfl⟩) (Or.inr ⟨_, rfl⟩) (fun t ht hW => V.post k.2 X y hp t ht hW) y.2.2 d hM.2.1)
/-- behind a call -/
theorem V.back {mc ms : Nat} {ls : Array Slot} {H : Heap} {locs : List Loc} {st0 : List Value} {av : Array Value} {post : Option Value → Pic → Nat → Prop} (hr : va_Run p l e R s m args below meth c H locs cells slots mc ms (F0 m pc ls st0) st (gQc w post av) (wA w)) (y : va_S (wA w) s.heap H locs) (q : lvP ls L)
    (h : ∀ (v : Option Value) (G' : Pic) (sz' : Nat), post v G' sz' → V p l e R s m args below meth c w G' sz' (cells + mc) (slots + ms) Q (pc + 3) L (v.toList ++ st)) : W p l e R s m args below meth c H locs cells slots Q (F0 m pc ls st0) := by
  intro T hT X
  obtain ⟨v, st₀, t, T', Lo, h0, X', hL, e1, e2, ⟨⟨v', G', sz', hv, hp, hH, -⟩, hz, hk⟩, stp⟩ := hr T hT X
  cases hv
  rw [h0] at hz hk
  obtain ⟨t2, a1, b1⟩ := h v G' sz' hp T'.heap (locs ++ Lo) ls (by rw [e1]; exact hH)
    ⟨Nat.le_trans y.1 (by rw [e1]; exact hz), fun q h1 h2 => by rw [e1, hk q (Nat.lt_of_lt_of_le h1 y.1) h2]; exact y.2.1 q h1 h2, fun q hq => by
      rcases List.mem_append.mp hq with h | h
      · exact y.2.2 q h
      · exact hL q h⟩ q T' rfl X'
  exact ⟨t2, stp t2 a1, b1⟩
theorem V.pre {H : Heap} (k : wK w s) (X : HG w G sz H) (av : List Value) : PreS s H (gPc w av G sz) av :=
  ⟨gPc_blind w av G sz, fun U hU hW => ⟨rfl, by rw [hU]; exact X, k.moved hW.alike⟩⟩
theorem V.callV (k : Ok p s m args c w cc nL own Ts) {y : MethodName} {ws ws' : List Cond} {rm : Room} {C : String} {idx ci n maxL b : Nat} {bytes : ByteArray} {ret : Option FieldType} {As fs : List Value} {post : Option Value → Pic → Nat → Prop} {st0 : List Value} (d : decode cc pc = .ok (.invokevirtual idx, 3)) (hM : Ct l w y ws rm (.ref b :: As) G sz post) (hT : GoodIn Ts (wsV own idx C y ws)) (hw : ws = Cond.code y bytes maxL ret :: ws') (hcl : (vwCl[ci]?.map fun r => r.1) = some C) (hG : G b = some (gO ci fs))
    (hd : y.cls = C ∧ y.cls ≠ "java/lang/invoke/MethodHandle" ∧ y.cls ≠ "java/lang/invoke/VarHandle" ∧ (parseMethodDescriptor y.desc).map (fun d => d.parameters.length) = some n) (hR : (rm.frames + 1 ≤ R.frames ∧ 8 + (maxL + 11) + rm.locals ≤ R.locals) ∧ cells + rm.cells ≤ R.cells ∧ slots + rm.slots ≤ R.slots) (hn : As.length = n) (hL : L.length = nL) (hst : st0 = As.reverse ++ .ref b :: st) (hcat : (st.map fun v => v.category).sum ≤ 8)
    (h : ∀ (v : Option Value) (G' : Pic) (sz' : Nat), post v G' sz' → V p l e R s m args below meth c w G' sz' (cells + rm.cells) (slots + rm.slots) Q (pc + 3) L (v.toList ++ st)) : V p l e R s m args below meth c w G sz cells slots Q pc L st0 := fun H locs ls X yS q => by
  have hp : PreV s H C b (gPc w (.ref b :: As) G sz) As := by
    refine ⟨gPc_blind w _ G sz, ?_, (V.pre k.2 X (.ref b :: As)).2⟩
    obtain ⟨-, r, h1, cell, g1, g2, g3, -⟩ := X.2.2 b _ hG
    rw [h1] at hcl
    have hC : r.1 = C := by simpa using hcl
    exact ⟨cell, g1, by rw [g3]; rfl, by rw [g2, ← hC]; exact (k.2.1.1 ci r h1).2.1⟩
  exact V.back (va_runV (C := C) k.1 hM (cwV n k.1.2.2.2.2 hT hw rfl rfl hd hR.1) hp rfl hn (q.1.trans hL) hst (lv_room hcat) d hR.2) yS q h
theorem V.callI (k : Ok p s m args c w cc nL own Ts) {y : MethodName} {ws ws' : List Cond} {rm : Room} {idx n maxL b : Nat} {bytes : ByteArray} {As : List Value} {post : Option Value → Pic → Nat → Prop} {st0 : List Value} (d : decode cc pc = .ok (.invokespecial idx, 3)) (hM : Ct l w y ws rm (.ref b :: As) G sz post) (hT : GoodIn Ts ws) (hw : ws = Cond.code y bytes maxL none :: ws') (h1 : Cond.initialized y.cls ∈ Ts) (h2 : Cond.methodLink own idx y ∈ Ts) (h3 : Cond.instanceMethod y ∈ Ts) (hy : y.name = "<init>")
    (hd : y.cls ≠ "java/lang/invoke/MethodHandle" ∧ y.cls ≠ "java/lang/invoke/VarHandle" ∧ (parseMethodDescriptor y.desc).map (fun d => d.parameters.length) = some n) (hR : (rm.frames + 1 ≤ R.frames ∧ 8 + (maxL + 11) + rm.locals ≤ R.locals) ∧ cells + rm.cells ≤ R.cells ∧ slots + rm.slots ≤ R.slots) (hn : As.length = n) (hL : L.length = nL) (hst : st0 = As.reverse ++ .ref b :: st) (hcat : (st.map fun v => v.category).sum ≤ 8)
    (h : ∀ (v : Option Value) (G' : Pic) (sz' : Nat), post v G' sz' → V p l e R s m args below meth c w G' sz' (cells + rm.cells) (slots + rm.slots) Q (pc + 3) L (v.toList ++ st)) : V p l e R s m args below meth c w G sz cells slots Q pc L st0 := fun H locs ls X yS q =>
  V.back (va_runI k.1 hM (cwI n k.1.2.2.2.2 hT hw rfl rfl (k.1.2.2.2.2 _ h1) (k.1.2.2.2.2 _ h2) (k.1.2.2.2.2 _ h3) hy hd hR.1) (V.pre k.2 X _) rfl hn (q.1.trans hL) hst (lv_room hcat) d hR.2) yS q h
theorem V.callS (k : Ok p s m args c w cc nL own Ts) {y : MethodName} {ws ws' : List Cond} {rm : Room} {idx n maxL : Nat} {bytes : ByteArray} {ret : Option FieldType} {As : List Value} {post : Option Value → Pic → Nat → Prop} {st0 : List Value} (d : decode cc pc = .ok (.invokestatic idx, 3)) (hM : Ct l w y ws rm As G sz post) (hT : GoodIn Ts (va_wsS own idx y ws)) (hw : ws = Cond.code y bytes maxL ret :: ws')
    (hd : y.cls ≠ "java/lang/invoke/MethodHandle" ∧ y.cls ≠ "java/lang/invoke/VarHandle" ∧ (parseMethodDescriptor y.desc).map (fun d => d.parameters.length) = some n) (hR : (rm.frames + 1 ≤ R.frames ∧ 8 + (maxL + 11) + rm.locals ≤ R.locals) ∧ cells + rm.cells ≤ R.cells ∧ slots + rm.slots ≤ R.slots) (hn : As.length = n) (hL : L.length = nL) (hst : st0 = As.reverse ++ st) (hcat : (st.map fun v => v.category).sum ≤ 8)
    (h : ∀ (v : Option Value) (G' : Pic) (sz' : Nat), post v G' sz' → V p l e R s m args below meth c w G' sz' (cells + rm.cells) (slots + rm.slots) Q (pc + 3) L (v.toList ++ st)) : V p l e R s m args below meth c w G sz cells slots Q pc L st0 := fun H locs ls X yS q =>
  V.back (va_runS k.1 hM (va_cwS n k.1.2.2.2.2 hT hw rfl rfl hd hR.1) (V.pre k.2 X _) rfl hn (q.1.trans hL) hst (lv_room hcat) d hR.2) yS q h
end VV
/-- a contract out of a walk of the body -/
theorem Ct.of {l : Launch} {w : Wd} {y : MethodName} {ws ws' : List Cond} {rm : Room} {av : List Value} {G : Pic} {sz maxL : Nat} {cc : ByteArray} {ret : Option FieldType} {post : Option Value → Pic → Nat → Prop} {L : List (Option Value)} (hy : plainName y.cls = true) (hw : ws = Cond.code y cc maxL ret :: ws') (h1 : ∀ v ∈ av, v.category = 1) (hn : av.length ≤ maxL) (hL : av.map some ++ List.replicate (maxL - av.length) none = L)
    (body : ∀ (p : Program) (e : Env) (s : State) (m : MethodId) (args : Array Value) (below : List Frame) (meth : Method) (c : Code), Ok p s m args c w cc maxL y.cls ws → Mi meth ret y.name → V p l e rm s m args below meth c w G sz 0 0 (mQ w below args s rm post) 0 L []) : Ct l w y ws rm av G sz post := by
  refine Met.ofW (cc := cc) (maxL := maxL) (ret := ret) hy hw ?_
  intro p e s m args below meth c s₁ B hml hv
  obtain ⟨rfl, hH, hK⟩ := hv
  subst hL
  have hb := body p e s m av.toArray below meth c ⟨⟨B.exec, B.bytes, hml, findClass_of_methodNamed B.named, atoms_spec (ws := ws) B.pre⟩, hK⟩ ⟨B.returns, B.notSynchronized, (name_of_methodNamed B.named B.method).1⟩
  rw [lg_entry_eq]
  have hA : va_S (wA w) s.heap s.heap [] := va_S.rf
  exact hb s.heap [] _ hH hA (lvP.entry av h1 hn)

