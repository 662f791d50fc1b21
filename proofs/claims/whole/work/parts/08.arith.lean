/-! numbers: an int's 32 bits as a natural, shifts and masks, branches over naturals -/
def tn (x : Int32) : Nat := x.toBitVec.toNat
theorem tn_nI {n : Nat} (h : n < 2 ^ 32) : tn (nI n) = n := pk_tn h
theorem tn_lt (x : Int32) : tn x < 2 ^ 32 := x.toBitVec.isLt
theorem sh_am : ∀ d, d < 32 → ((nI d &&& 31).toBitVec.smod 32).toNat = d := by decide +kernel
theorem shl1 {d : Nat} (h : d ≤ 30) : nI 1 <<< (nI d &&& 31) = nI (2 ^ d) := by
  have h2 : 2 ^ d ≤ 2 ^ 30 := Nat.pow_le_pow_right (by omega) h
  rw [pk_shlN (n := 1) (nI d &&& 31) d (sh_am d (by omega)) (by rw [Nat.one_mul]; omega), Nat.one_mul]
theorem andm (x : Int32) {b : Nat} (h : b ≤ 31) : x &&& nI (2 ^ b - 1) = nI (tn x % 2 ^ b) := by
  have h2 : 2 ^ b ≤ 2 ^ 31 := Nat.pow_le_pow_right (by omega) h
  exact pk_and x b (pk_tn (by omega))
theorem nI_sub1 {b : Nat} : nI (2 ^ b) - nI 1 = nI (2 ^ b - 1) := pk_sub Nat.one_le_two_pow
theorem p2le {d : Nat} (h : d ≤ 8) : 2 ^ d ≤ 256 := Nat.pow_le_pow_right (by omega) h
theorem p2pos (d : Nat) : 0 < 2 ^ d := Nat.two_pow_pos d
theorem nI_inc1 (e : Nat) : nI e + Int32.ofInt 1 = nI (e + 1) := nI_add e 1
theorem nI_inc3 (e : Nat) : nI e + Int32.ofInt 3 = nI (e + 3) := nI_add e 3
theorem nI_dec1 {e : Nat} (h : 0 < e) : nI e + Int32.ofInt (-1) = nI (e - 1) := by
  obtain ⟨n, rfl⟩ : ∃ n, e = n + 1 := ⟨e - 1, by omega⟩
  rw [Nat.add_sub_cancel]
  exact pk_m1 n
/-- answers that are known beforehand -/
def rt (v : Option Value) (G : Pic) (sz : Nat) : Option Value → Pic → Nat → Prop := fun v' G' sz' => v' = v ∧ G' = G ∧ sz' = sz
theorem rt_ok {v : Option Value} {G : Pic} {sz : Nat} : rt v G sz v G sz := ⟨rfl, rfl, rfl⟩
section VN
variable {p : Program} {l : Launch} {e : Env} {R : Room} {s : State} {m : MethodId} {args : Array Value} {below : List Frame} {meth : Method} {c : Code} {w : Wd} {G : Pic} {sz cells slots : Nat} {Q : State → Prop} {L : List (Option Value)} {st : List Value}
variable {cc : ByteArray} {nL : Nat} {own : String} {Ts : List Cond} {pc : Nat}
theorem V.n_eq (k : Ok p s m args c w cc nL own Ts) {a b : Nat} {off : Int} {tgt : Nat} (d : decode cc pc = .ok (.if_icmp .eq off, 3)) (ht : (pc : Int) + off = (tgt : Int)) (ha : a < 2 ^ 31) (hb : b < 2 ^ 31) (kt : a = b → V p l e R s m args below meth c w G sz cells slots Q tgt L st) (kf : a ≠ b → V p l e R s m args below meth c w G sz cells slots Q (pc + 3) L st) : V p l e R s m args below meth c w G sz cells slots Q pc L (.int (nI b) :: .int (nI a) :: st) := V.icmp_eq k d ht (fun z => kt (by have := @nI_eq a b ha hb; have := @nI_ltI a b ha hb; have := @nI_ltI b a hb ha; have := @nI_leI a b ha hb; have := @nI_leI b a hb ha; simp_all)) (fun z => kf (by have := @nI_eq a b ha hb; have := @nI_ltI a b ha hb; have := @nI_ltI b a hb ha; have := @nI_leI a b ha hb; have := @nI_leI b a hb ha; simp_all))
theorem V.n_ne (k : Ok p s m args c w cc nL own Ts) {a b : Nat} {off : Int} {tgt : Nat} (d : decode cc pc = .ok (.if_icmp .ne off, 3)) (ht : (pc : Int) + off = (tgt : Int)) (ha : a < 2 ^ 31) (hb : b < 2 ^ 31) (kt : a ≠ b → V p l e R s m args below meth c w G sz cells slots Q tgt L st) (kf : a = b → V p l e R s m args below meth c w G sz cells slots Q (pc + 3) L st) : V p l e R s m args below meth c w G sz cells slots Q pc L (.int (nI b) :: .int (nI a) :: st) := V.icmp_ne k d ht (fun z => kt (by have := @nI_eq a b ha hb; have := @nI_ltI a b ha hb; have := @nI_ltI b a hb ha; have := @nI_leI a b ha hb; have := @nI_leI b a hb ha; simp_all)) (fun z => kf (by have := @nI_eq a b ha hb; have := @nI_ltI a b ha hb; have := @nI_ltI b a hb ha; have := @nI_leI a b ha hb; have := @nI_leI b a hb ha; simp_all))
theorem V.n_lt (k : Ok p s m args c w cc nL own Ts) {a b : Nat} {off : Int} {tgt : Nat} (d : decode cc pc = .ok (.if_icmp .lt off, 3)) (ht : (pc : Int) + off = (tgt : Int)) (ha : a < 2 ^ 31) (hb : b < 2 ^ 31) (kt : a < b → V p l e R s m args below meth c w G sz cells slots Q tgt L st) (kf : b ≤ a → V p l e R s m args below meth c w G sz cells slots Q (pc + 3) L st) : V p l e R s m args below meth c w G sz cells slots Q pc L (.int (nI b) :: .int (nI a) :: st) := V.icmp_lt k d ht (fun z => kt (by have := @nI_eq a b ha hb; have := @nI_ltI a b ha hb; have := @nI_ltI b a hb ha; have := @nI_leI a b ha hb; have := @nI_leI b a hb ha; simp_all)) (fun z => kf (by have := @nI_eq a b ha hb; have := @nI_ltI a b ha hb; have := @nI_ltI b a hb ha; have := @nI_leI a b ha hb; have := @nI_leI b a hb ha; simp_all))
theorem V.n_ge (k : Ok p s m args c w cc nL own Ts) {a b : Nat} {off : Int} {tgt : Nat} (d : decode cc pc = .ok (.if_icmp .ge off, 3)) (ht : (pc : Int) + off = (tgt : Int)) (ha : a < 2 ^ 31) (hb : b < 2 ^ 31) (kt : b ≤ a → V p l e R s m args below meth c w G sz cells slots Q tgt L st) (kf : a < b → V p l e R s m args below meth c w G sz cells slots Q (pc + 3) L st) : V p l e R s m args below meth c w G sz cells slots Q pc L (.int (nI b) :: .int (nI a) :: st) := V.icmp_ge k d ht (fun z => kt (by have := @nI_eq a b ha hb; have := @nI_ltI a b ha hb; have := @nI_ltI b a hb ha; have := @nI_leI a b ha hb; have := @nI_leI b a hb ha; simp_all)) (fun z => kf (by have := @nI_eq a b ha hb; have := @nI_ltI a b ha hb; have := @nI_ltI b a hb ha; have := @nI_leI a b ha hb; have := @nI_leI b a hb ha; simp_all))
theorem V.n_gt (k : Ok p s m args c w cc nL own Ts) {a b : Nat} {off : Int} {tgt : Nat} (d : decode cc pc = .ok (.if_icmp .gt off, 3)) (ht : (pc : Int) + off = (tgt : Int)) (ha : a < 2 ^ 31) (hb : b < 2 ^ 31) (kt : b < a → V p l e R s m args below meth c w G sz cells slots Q tgt L st) (kf : a ≤ b → V p l e R s m args below meth c w G sz cells slots Q (pc + 3) L st) : V p l e R s m args below meth c w G sz cells slots Q pc L (.int (nI b) :: .int (nI a) :: st) := V.icmp_gt k d ht (fun z => kt (by have := @nI_eq a b ha hb; have := @nI_ltI a b ha hb; have := @nI_ltI b a hb ha; have := @nI_leI a b ha hb; have := @nI_leI b a hb ha; simp_all)) (fun z => kf (by have := @nI_eq a b ha hb; have := @nI_ltI a b ha hb; have := @nI_ltI b a hb ha; have := @nI_leI a b ha hb; have := @nI_leI b a hb ha; simp_all))
theorem V.n_le (k : Ok p s m args c w cc nL own Ts) {a b : Nat} {off : Int} {tgt : Nat} (d : decode cc pc = .ok (.if_icmp .le off, 3)) (ht : (pc : Int) + off = (tgt : Int)) (ha : a < 2 ^ 31) (hb : b < 2 ^ 31) (kt : a ≤ b → V p l e R s m args below meth c w G sz cells slots Q tgt L st) (kf : b < a → V p l e R s m args below meth c w G sz cells slots Q (pc + 3) L st) : V p l e R s m args below meth c w G sz cells slots Q pc L (.int (nI b) :: .int (nI a) :: st) := V.icmp_le k d ht (fun z => kt (by have := @nI_eq a b ha hb; have := @nI_ltI a b ha hb; have := @nI_ltI b a hb ha; have := @nI_leI a b ha hb; have := @nI_leI b a hb ha; simp_all)) (fun z => kf (by have := @nI_eq a b ha hb; have := @nI_ltI a b ha hb; have := @nI_ltI b a hb ha; have := @nI_leI a b ha hb; have := @nI_leI b a hb ha; simp_all))
theorem V.z_eq (k : Ok p s m args c w cc nL own Ts) {a : Nat} {off : Int} {tgt : Nat} (d : decode cc pc = .ok (.ifCond .eq off, 3)) (ht : (pc : Int) + off = (tgt : Int)) (ha : a < 2 ^ 31) (kt : a = 0 → V p l e R s m args below meth c w G sz cells slots Q tgt L st) (kf : 0 < a → V p l e R s m args below meth c w G sz cells slots Q (pc + 3) L st) : V p l e R s m args below meth c w G sz cells slots Q pc L (.int (nI a) :: st) := by
  have h0 : nI 0 = 0 := nI_0
  have e1 := @nI_eq a 0 ha (by omega)
  have e2 := @nI_ltI a 0 ha (by omega)
  have e3 := @nI_ltI 0 a (by omega) ha
  have e4 := @nI_leI a 0 ha (by omega)
  have e5 := @nI_leI 0 a (by omega) ha
  rw [h0] at e1 e2 e3 e4 e5
  exact V.if_eq k d ht (fun z => kt (by first | trivial | omega | (simp only [e1, e2, e3, e4, e5] at z; omega))) (fun z => kf (by first | trivial | omega | (simp only [e1, e2, e3, e4, e5] at z; omega)))
theorem V.z_ne (k : Ok p s m args c w cc nL own Ts) {a : Nat} {off : Int} {tgt : Nat} (d : decode cc pc = .ok (.ifCond .ne off, 3)) (ht : (pc : Int) + off = (tgt : Int)) (ha : a < 2 ^ 31) (kt : 0 < a → V p l e R s m args below meth c w G sz cells slots Q tgt L st) (kf : a = 0 → V p l e R s m args below meth c w G sz cells slots Q (pc + 3) L st) : V p l e R s m args below meth c w G sz cells slots Q pc L (.int (nI a) :: st) := by
  have h0 : nI 0 = 0 := nI_0
  have e1 := @nI_eq a 0 ha (by omega)
  have e2 := @nI_ltI a 0 ha (by omega)
  have e3 := @nI_ltI 0 a (by omega) ha
  have e4 := @nI_leI a 0 ha (by omega)
  have e5 := @nI_leI 0 a (by omega) ha
  rw [h0] at e1 e2 e3 e4 e5
  exact V.if_ne k d ht (fun z => kt (by first | trivial | omega | (simp only [e1, e2, e3, e4, e5] at z; omega))) (fun z => kf (by first | trivial | omega | (simp only [e1, e2, e3, e4, e5] at z; omega)))
theorem V.z_lt (k : Ok p s m args c w cc nL own Ts) {a : Nat} {off : Int} {tgt : Nat} (d : decode cc pc = .ok (.ifCond .lt off, 3)) (ht : (pc : Int) + off = (tgt : Int)) (ha : a < 2 ^ 31) (kt : False → V p l e R s m args below meth c w G sz cells slots Q tgt L st) (kf : True → V p l e R s m args below meth c w G sz cells slots Q (pc + 3) L st) : V p l e R s m args below meth c w G sz cells slots Q pc L (.int (nI a) :: st) := by
  have h0 : nI 0 = 0 := nI_0
  have e1 := @nI_eq a 0 ha (by omega)
  have e2 := @nI_ltI a 0 ha (by omega)
  have e3 := @nI_ltI 0 a (by omega) ha
  have e4 := @nI_leI a 0 ha (by omega)
  have e5 := @nI_leI 0 a (by omega) ha
  rw [h0] at e1 e2 e3 e4 e5
  exact V.if_lt k d ht (fun z => kt (by first | trivial | omega | (simp only [e1, e2, e3, e4, e5] at z; omega))) (fun z => kf (by first | trivial | omega | (simp only [e1, e2, e3, e4, e5] at z; omega)))
theorem V.z_ge (k : Ok p s m args c w cc nL own Ts) {a : Nat} {off : Int} {tgt : Nat} (d : decode cc pc = .ok (.ifCond .ge off, 3)) (ht : (pc : Int) + off = (tgt : Int)) (ha : a < 2 ^ 31) (kt : True → V p l e R s m args below meth c w G sz cells slots Q tgt L st) (kf : False → V p l e R s m args below meth c w G sz cells slots Q (pc + 3) L st) : V p l e R s m args below meth c w G sz cells slots Q pc L (.int (nI a) :: st) := by
  have h0 : nI 0 = 0 := nI_0
  have e1 := @nI_eq a 0 ha (by omega)
  have e2 := @nI_ltI a 0 ha (by omega)
  have e3 := @nI_ltI 0 a (by omega) ha
  have e4 := @nI_leI a 0 ha (by omega)
  have e5 := @nI_leI 0 a (by omega) ha
  rw [h0] at e1 e2 e3 e4 e5
  exact V.if_ge k d ht (fun z => kt (by first | trivial | omega | (simp only [e1, e2, e3, e4, e5] at z; omega))) (fun z => kf (by first | trivial | omega | (simp only [e1, e2, e3, e4, e5] at z; omega)))
theorem V.z_gt (k : Ok p s m args c w cc nL own Ts) {a : Nat} {off : Int} {tgt : Nat} (d : decode cc pc = .ok (.ifCond .gt off, 3)) (ht : (pc : Int) + off = (tgt : Int)) (ha : a < 2 ^ 31) (kt : 0 < a → V p l e R s m args below meth c w G sz cells slots Q tgt L st) (kf : a = 0 → V p l e R s m args below meth c w G sz cells slots Q (pc + 3) L st) : V p l e R s m args below meth c w G sz cells slots Q pc L (.int (nI a) :: st) := by
  have h0 : nI 0 = 0 := nI_0
  have e1 := @nI_eq a 0 ha (by omega)
  have e2 := @nI_ltI a 0 ha (by omega)
  have e3 := @nI_ltI 0 a (by omega) ha
  have e4 := @nI_leI a 0 ha (by omega)
  have e5 := @nI_leI 0 a (by omega) ha
  rw [h0] at e1 e2 e3 e4 e5
  exact V.if_gt k d ht (fun z => kt (by first | trivial | omega | (simp only [e1, e2, e3, e4, e5] at z; omega))) (fun z => kf (by first | trivial | omega | (simp only [e1, e2, e3, e4, e5] at z; omega)))
theorem V.z_le (k : Ok p s m args c w cc nL own Ts) {a : Nat} {off : Int} {tgt : Nat} (d : decode cc pc = .ok (.ifCond .le off, 3)) (ht : (pc : Int) + off = (tgt : Int)) (ha : a < 2 ^ 31) (kt : a = 0 → V p l e R s m args below meth c w G sz cells slots Q tgt L st) (kf : 0 < a → V p l e R s m args below meth c w G sz cells slots Q (pc + 3) L st) : V p l e R s m args below meth c w G sz cells slots Q pc L (.int (nI a) :: st) := by
  have h0 : nI 0 = 0 := nI_0
  have e1 := @nI_eq a 0 ha (by omega)
  have e2 := @nI_ltI a 0 ha (by omega)
  have e3 := @nI_ltI 0 a (by omega) ha
  have e4 := @nI_leI a 0 ha (by omega)
  have e5 := @nI_leI 0 a (by omega) ha
  rw [h0] at e1 e2 e3 e4 e5
  exact V.if_le k d ht (fun z => kt (by first | trivial | omega | (simp only [e1, e2, e3, e4, e5] at z; omega))) (fun z => kf (by first | trivial | omega | (simp only [e1, e2, e3, e4, e5] at z; omega)))
theorem V.cV (k : Ok p s m args c w cc nL own Ts) {y : MethodName} {ws ws' : List Cond} {rm : Room} {C : String} {idx ci n maxL b : Nat} {bytes : ByteArray} {ret : Option FieldType} {As fs : List Value} {v : Option Value} {G' : Pic} {sz' : Nat} {st0 st1 : List Value} (d : decode cc pc = .ok (.invokevirtual idx, 3)) (hM : Ct l w y ws rm (.ref b :: As) G sz (rt v G' sz')) (hT : GoodIn Ts (wsV own idx C y ws)) (hw : ws = Cond.code y bytes maxL ret :: ws') (hcl : (vwCl[ci]?.map fun r => r.1) = some C) (hG : G b = some (gO ci fs))
    (hd : y.cls = C ∧ y.cls ≠ "java/lang/invoke/MethodHandle" ∧ y.cls ≠ "java/lang/invoke/VarHandle" ∧ (parseMethodDescriptor y.desc).map (fun d => d.parameters.length) = some n) (hR : (rm.frames + 1 ≤ R.frames ∧ 8 + (maxL + 11) + rm.locals ≤ R.locals) ∧ cells + rm.cells ≤ R.cells ∧ slots + rm.slots ≤ R.slots) (hn : As.length = n) (hL : L.length = nL) (hst : st0 = As.reverse ++ .ref b :: st) (hcat : (st.map fun v => v.category).sum ≤ 8) (hs1 : v.toList ++ st = st1)
    (h : V p l e R s m args below meth c w G' sz' (cells + rm.cells) (slots + rm.slots) Q (pc + 3) L st1) : V p l e R s m args below meth c w G sz cells slots Q pc L st0 :=
  V.callV k d hM hT hw hcl hG hd hR hn hL hst hcat (fun v' G'' sz'' hp => by obtain ⟨rfl, rfl, rfl⟩ := hp; subst hs1; exact h)
theorem V.cI (k : Ok p s m args c w cc nL own Ts) {y : MethodName} {ws ws' : List Cond} {rm : Room} {idx n maxL b : Nat} {bytes : ByteArray} {As : List Value} {v : Option Value} {G' : Pic} {sz' : Nat} {st0 st1 : List Value} (d : decode cc pc = .ok (.invokespecial idx, 3)) (hM : Ct l w y ws rm (.ref b :: As) G sz (rt v G' sz')) (hT : GoodIn Ts ws) (hw : ws = Cond.code y bytes maxL none :: ws') (h1 : Cond.initialized y.cls ∈ Ts) (h2 : Cond.methodLink own idx y ∈ Ts) (h3 : Cond.instanceMethod y ∈ Ts) (hy : y.name = "<init>")
    (hd : y.cls ≠ "java/lang/invoke/MethodHandle" ∧ y.cls ≠ "java/lang/invoke/VarHandle" ∧ (parseMethodDescriptor y.desc).map (fun d => d.parameters.length) = some n) (hR : (rm.frames + 1 ≤ R.frames ∧ 8 + (maxL + 11) + rm.locals ≤ R.locals) ∧ cells + rm.cells ≤ R.cells ∧ slots + rm.slots ≤ R.slots) (hn : As.length = n) (hL : L.length = nL) (hst : st0 = As.reverse ++ .ref b :: st) (hcat : (st.map fun v => v.category).sum ≤ 8) (hs1 : v.toList ++ st = st1)
    (h : V p l e R s m args below meth c w G' sz' (cells + rm.cells) (slots + rm.slots) Q (pc + 3) L st1) : V p l e R s m args below meth c w G sz cells slots Q pc L st0 :=
  V.callI k d hM hT hw h1 h2 h3 hy hd hR hn hL hst hcat (fun v' G'' sz'' hp => by obtain ⟨rfl, rfl, rfl⟩ := hp; subst hs1; exact h)
theorem V.cS (k : Ok p s m args c w cc nL own Ts) {y : MethodName} {ws ws' : List Cond} {rm : Room} {idx n maxL : Nat} {bytes : ByteArray} {ret : Option FieldType} {As : List Value} {v : Option Value} {G' : Pic} {sz' : Nat} {st0 st1 : List Value} (d : decode cc pc = .ok (.invokestatic idx, 3)) (hM : Ct l w y ws rm As G sz (rt v G' sz')) (hT : GoodIn Ts (va_wsS own idx y ws)) (hw : ws = Cond.code y bytes maxL ret :: ws')
    (hd : y.cls ≠ "java/lang/invoke/MethodHandle" ∧ y.cls ≠ "java/lang/invoke/VarHandle" ∧ (parseMethodDescriptor y.desc).map (fun d => d.parameters.length) = some n) (hR : (rm.frames + 1 ≤ R.frames ∧ 8 + (maxL + 11) + rm.locals ≤ R.locals) ∧ cells + rm.cells ≤ R.cells ∧ slots + rm.slots ≤ R.slots) (hn : As.length = n) (hL : L.length = nL) (hst : st0 = As.reverse ++ st) (hcat : (st.map fun v => v.category).sum ≤ 8) (hs1 : v.toList ++ st = st1)
    (h : V p l e R s m args below meth c w G' sz' (cells + rm.cells) (slots + rm.slots) Q (pc + 3) L st1) : V p l e R s m args below meth c w G sz cells slots Q pc L st0 :=
  V.callS k d hM hT hw hd hR hn hL hst hcat (fun v' G'' sz'' hp => by obtain ⟨rfl, rfl, rfl⟩ := hp; subst hs1; exact h)
end VN
