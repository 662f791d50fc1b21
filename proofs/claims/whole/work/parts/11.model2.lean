section VB
variable {p : Program} {l : Launch} {e : Env} {R : Room} {s : State} {m : MethodId} {args : Array Value} {below : List Frame} {meth : Method} {c : Code} {w : Wd} {G : Pic} {sz cells slots : Nat} {Q : State → Prop} {L : List (Option Value)} {st : List Value}
variable {cc : ByteArray} {nL : Nat} {own : String} {Ts : List Cond} {pc : Nat}
theorem bI_0 {b : Bool} : bI b = 0 ↔ b = false := by cases b <;> decide
theorem V.b_eq (k : Ok p s m args c w cc nL own Ts) {b : Bool} {off : Int} {tgt : Nat} (d : decode cc pc = .ok (.ifCond .eq off, 3)) (ht : (pc : Int) + off = (tgt : Int)) (kt : b = false → V p l e R s m args below meth c w G sz cells slots Q tgt L st) (kf : b = true → V p l e R s m args below meth c w G sz cells slots Q (pc + 3) L st) : V p l e R s m args below meth c w G sz cells slots Q pc L (.int (bI b) :: st) :=
  V.if_eq k d ht (fun h => kt (bI_0.mp h)) (fun h => kf (by cases b with | true => rfl | false => exact absurd (bI_0.mpr rfl) h))
theorem V.b_ne (k : Ok p s m args c w cc nL own Ts) {b : Bool} {off : Int} {tgt : Nat} (d : decode cc pc = .ok (.ifCond .ne off, 3)) (ht : (pc : Int) + off = (tgt : Int)) (kt : b = true → V p l e R s m args below meth c w G sz cells slots Q tgt L st) (kf : b = false → V p l e R s m args below meth c w G sz cells slots Q (pc + 3) L st) : V p l e R s m args below meth c w G sz cells slots Q pc L (.int (bI b) :: st) :=
  V.if_ne k d ht (fun h => kt (by cases b with | true => rfl | false => exact absurd (bI_0.mpr rfl) h)) (fun h => kf (bI_0.mp h))
end VB
def setN (N : Nat → Nat → Nat) (E r b nl : Nat) : Nat → Nat → Nat := fun i j => if j < E ∧ j % 2 ^ b = r % 2 ^ b then (if i = 0 then nl else if i = 1 then 0 else N i j) else N i j
theorem setN_0 (N : Nat → Nat → Nat) (r b nl : Nat) : setN N 0 r b nl = N := by
  funext i j
  simp [setN]
theorem setN_no (N : Nat → Nat → Nat) {e r b nl : Nat} (h : ¬ e % 2 ^ b = r % 2 ^ b) : setN N (e + 1) r b nl = setN N e r b nl := by
  funext i j
  unfold setN
  by_cases hj : j = e
  · subst hj; simp [h]
  · have : (j < e + 1 ∧ j % 2 ^ b = r % 2 ^ b) ↔ (j < e ∧ j % 2 ^ b = r % 2 ^ b) := by constructor <;> (intro q; exact ⟨by omega, q.2⟩)
    simp [this]
theorem setN_yes (N : Nat → Nat → Nat) {e r b nl : Nat} (h : e % 2 ^ b = r % 2 ^ b) : va_up (va_up (setN N e r b nl) 0 (va_up (setN N e r b nl 0) e nl)) 1 (va_up (va_up (setN N e r b nl) 0 (va_up (setN N e r b nl 0) e nl) 1) e 0) = setN N (e + 1) r b nl := by
  funext i j
  have hx1 : ∀ q, ¬ q = e → ((q < e + 1 ∧ q % 2 ^ b = r % 2 ^ b) ↔ (q < e ∧ q % 2 ^ b = r % 2 ^ b)) := by
    intro q hq
    constructor <;> (intro z; exact ⟨by omega, z.2⟩)
  unfold va_up setN
  by_cases h1 : i = 1
  · subst h1
    by_cases hj : j = e
    · subst hj; simp [h]
    · simp [hj, hx1 j hj]
  · by_cases h0 : i = 0
    · subst h0
      by_cases hj : j = e
      · subst hj; simp [h]
      · simp [hj, hx1 j hj]
    · by_cases hj : j = e
      · subst hj; simp [h0, h1]
      · simp [h0, h1, hx1 j hj]
theorem mod_lt31 (x : Nat) {b : Nat} (h : b ≤ 30) : x % 2 ^ b < 2 ^ 31 := Nat.lt_of_lt_of_le (Nat.mod_lt _ (p2pos b)) (Nat.pow_le_pow_right (by omega) (by omega))
theorem fl_X3_count_56 : FL wsX3_count RX3 56 3 6 := ⟨RX3, TX3, 21, rfl, (fun _ h => List.mem_cons_of_mem _ (List.mem_append_right _ h)), by decide, List.mem_of_getElem? (i := 1) rfl, rfl⟩
set_option maxHeartbeats 4000000 in
set_option maxRecDepth 100000 in
theorem c_X3_count (l : Launch) (w : Wd) (y sz : Nat) (F : Nat → Nat) (K : Nat → Nat → Int32) (N : Nat → Nat → Nat) (Z : Nat → Nat → Bool) (G0 : Pic) (hd : F 6 ≤ 8) (hl : ∀ e, e < 2 ^ F 6 → N 0 e ≤ 30) : Ct l w yX3_count wsX3_count ⟨2, 0, 0, 42⟩ [.ref (y)] (mset y F K N Z G0) sz (rt (some (.int (nI (cntF (N 0) (2 ^ F 6))))) (mset y F K N Z G0) sz) := by
  refine Ct.of (cc := cX3_count) (maxL := 3) (ret := (some .int)) (L := [some (.ref (y)), none, none]) (by decide +kernel) rfl (by simp [Value.category]) (by simp) rfl ?_
  intro p e s m args below meth c k hM
  have h8 := p2le hd
  have hp0 := p2pos (F 6)
  have lp : ∀ (n i : Nat) , i ≤ 2 ^ F 6 → 2 ^ F 6 - i < n → V p l e ⟨2, 0, 0, 42⟩ s m args below meth c w (mset y F K N Z G0) sz 0 0 (mQ w below args s ⟨2, 0, 0, 42⟩ (rt (some (.int (nI (cntF (N 0) (2 ^ F 6))))) (mset y F K N Z G0) sz)) 4 [some (.ref (y)), some (.int (nI (cntF (N 0) i))), some (.int (nI (i)))] [] := by
    intro n
    induction n with
    | zero => intro i  h1 h2 ; omega
    | succ n ih =>
      intro i  h1 h2 
      have hc := cntF_le (N 0) i
      refine V.iload_n k dX3_count_4 rfl ?_
      refine V.iconst (v := nI 1) k dX3_count_5 (by decide) ?_
      refine V.aload_n k dX3_count_6 rfl ?_
      refine V.getf (v := .int (nI (F 6))) k dX3_count_7 fl_X3_count_56 (ms_o y F K N Z G0) rfl ?_
      refine V.ishl (v := (nI (2 ^ (F 6)))) k dX3_count_10 (shl1 (by omega)) ?_
      refine V.n_ge (tgt := 36) k dX3_count_11 (by decide) (by omega) (by omega) (fun hb => ?_) (fun hb => ?_)
      · refine V.iload_n k dX3_count_36 rfl ?_
        have hi : i = 2 ^ F 6 := by omega
        subst hi
        exact V.iret k hM dX3_count_37 (Nat.le_of_ble_eq_true rfl) (Nat.le_of_ble_eq_true rfl) (rt_ok)
      · refine V.aload_n k dX3_count_14 rfl ?_
        refine V.iload_n k dX3_count_15 rfl ?_
        refine V.cV (As := [.int (nI (i))]) (ci := 3) (st1 := [.int (bI (decide (i % 2 ^ N 0 i = i)))]) k dX3_count_16 (c_X3_isFirst l w y sz F K N Z G0 i (by omega) (hl i hb)) gX3_count_X3_isFirst rfl rfl (ms_o y F K N Z G0) ⟨rfl, hd_X3_isFirst⟩ ⟨⟨Nat.le_of_ble_eq_true rfl, Nat.le_of_ble_eq_true rfl⟩, Nat.le_of_ble_eq_true rfl, Nat.le_of_ble_eq_true rfl⟩ rfl rfl rfl (Nat.le_of_ble_eq_true rfl) rfl ?_
        refine V.b_eq (tgt := 28) k dX3_count_19 (by decide) (fun hc2 => ?_) (fun hc2 => ?_)
        · refine V.iload_n k dX3_count_28 rfl ?_
          have hc3 : cntF (N 0) i = cntF (N 0) (i + 1) := by rw [cntF, if_neg (by simpa using hc2)]
          refine V.stk (st' := [.int (nI (cntF (N 0) (i + 1)))]) (by rw [hc3]) ?_
          refine V.istore_n (L' := [some (.ref (y)), some (.int (nI (cntF (N 0) (i + 1)))), some (.int (nI (i)))]) k dX3_count_29 (Nat.le_of_ble_eq_true rfl) rfl ?_
          refine V.iinc (x := (nI (i))) (v := (nI (i + 1))) (L' := [some (.ref (y)), some (.int (nI (cntF (N 0) (i + 1)))), some (.int (nI (i + 1)))]) k dX3_count_30 rfl (nI_inc1 _) rfl ?_
          refine V.goto (tgt := 4) k dX3_count_33 (by decide) ?_
          exact ih (i + 1) (by omega) (by omega)
        · refine V.iload_n k dX3_count_22 rfl ?_
          refine V.iconst (v := nI 1) k dX3_count_23 (by decide) ?_
          refine V.iadd (v := (nI ((cntF (N 0) i) + 1))) k dX3_count_24 (nI_add _ _) ?_
          refine V.goto (tgt := 29) k dX3_count_25 (by decide) ?_
          have hc3 : cntF (N 0) i + 1 = cntF (N 0) (i + 1) := by rw [cntF, if_pos (by simpa using hc2)]
          refine V.stk (st' := [.int (nI (cntF (N 0) (i + 1)))]) (by rw [hc3]) ?_
          refine V.istore_n (L' := [some (.ref (y)), some (.int (nI (cntF (N 0) (i + 1)))), some (.int (nI (i)))]) k dX3_count_29 (Nat.le_of_ble_eq_true rfl) rfl ?_
          refine V.iinc (x := (nI (i))) (v := (nI (i + 1))) (L' := [some (.ref (y)), some (.int (nI (cntF (N 0) (i + 1)))), some (.int (nI (i + 1)))]) k dX3_count_30 rfl (nI_inc1 _) rfl ?_
          refine V.goto (tgt := 4) k dX3_count_33 (by decide) ?_
          exact ih (i + 1) (by omega) (by omega)
  refine V.iconst (v := nI 0) k dX3_count_0 (by decide) ?_
  refine V.istore_n (L' := [some (.ref (y)), some (.int (nI (0))), none]) k dX3_count_1 (Nat.le_of_ble_eq_true rfl) rfl ?_
  refine V.iconst (v := nI 0) k dX3_count_2 (by decide) ?_
  refine V.istore_n (L' := [some (.ref (y)), some (.int (nI (0))), some (.int (nI (0)))]) k dX3_count_3 (Nat.le_of_ble_eq_true rfl) rfl ?_
  exact lp (2 ^ F 6 + 1) 0 (by omega) (by omega)
theorem fl_X3_set_56 : FL wsX3_set RX3 56 3 6 := ⟨RX3, TX3, 21, rfl, (fun _ h => List.mem_cons_of_mem _ (List.mem_append_right _ h)), by decide, List.mem_of_getElem? (i := 1) rfl, rfl⟩
theorem fl_X3_set_16 : FL wsX3_set RX3 16 3 7 := ⟨RX3, TX3, 21, rfl, (fun _ h => List.mem_cons_of_mem _ (List.mem_append_right _ h)), by decide, List.mem_of_getElem? (i := 2) rfl, rfl⟩
theorem fl_X3_set_19 : FL wsX3_set RX3 19 3 8 := ⟨RX3, TX3, 21, rfl, (fun _ h => List.mem_cons_of_mem _ (List.mem_append_right _ h)), by decide, List.mem_of_getElem? (i := 3) rfl, rfl⟩
set_option maxHeartbeats 4000000 in
set_option maxRecDepth 100000 in
theorem c_X3_set (l : Launch) (w : Wd) (y sz : Nat) (F : Nat → Nat) (K : Nat → Nat → Int32) (N : Nat → Nat → Nat) (Z : Nat → Nat → Bool) (G0 : Pic) (r b nl : Nat) (hd : F 6 ≤ 8) (hr : r < 2 ^ 31) (hb0 : b ≤ 30) : Ct l w yX3_set wsX3_set ⟨1, 0, 0, 21⟩ [.ref (y), .int (nI (r)), .int (nI (b)), .int (nI (nl))] (mset y F K N Z G0) sz (rt none (mset y F K (setN N (2 ^ F 6) r b nl) Z G0) sz) := by
  refine Ct.of (cc := cX3_set) (maxL := 5) (ret := none) (L := [some (.ref (y)), some (.int (nI (r))), some (.int (nI (b))), some (.int (nI (nl))), none]) (by decide +kernel) rfl (by simp [Value.category]) (by simp) rfl ?_
  intro p e s m args below meth c k hM
  have h8 := p2le hd
  have hp0 := p2pos (F 6)
  have lp : ∀ (n i : Nat) , i ≤ 2 ^ F 6 → 2 ^ F 6 - i < n → V p l e ⟨1, 0, 0, 21⟩ s m args below meth c w (mset y F K (setN N i r b nl) Z G0) sz 0 0 (mQ w below args s ⟨1, 0, 0, 21⟩ (rt none (mset y F K (setN N (2 ^ F 6) r b nl) Z G0) sz)) 3 [some (.ref (y)), some (.int (nI (r))), some (.int (nI (b))), some (.int (nI (nl))), some (.int (nI (i)))] [] := by
    intro n
    induction n with
    | zero => intro i  h1 h2 ; omega
    | succ n ih =>
      intro i  h1 h2 
      refine V.iload k dX3_set_3 rfl ?_
      refine V.iconst (v := nI 1) k dX3_set_5 (by decide) ?_
      refine V.aload_n k dX3_set_6 rfl ?_
      refine V.getf (v := .int (nI (F 6))) k dX3_set_7 fl_X3_set_56 (ms_o y F K (setN N i r b nl) Z G0) rfl ?_
      refine V.ishl (v := (nI (2 ^ (F 6)))) k dX3_set_10 (shl1 (by omega)) ?_
      refine V.n_ge (tgt := 50) k dX3_set_11 (by decide) (by omega) (by omega) (fun hb => ?_) (fun hb => ?_)
      · have hi : i = 2 ^ F 6 := by omega
        subst hi
        exact V.vret k hM dX3_set_50 (Nat.le_of_ble_eq_true rfl) (Nat.le_of_ble_eq_true rfl) (rt_ok)
      · refine V.iload k dX3_set_14 rfl ?_
        refine V.iload_n k dX3_set_16 rfl ?_
        refine V.cS (As := [.int (nI (i)), .int (nI (b))]) (st1 := [.int (nI (tn (nI i) % 2 ^ b))]) k dX3_set_17 (c_X3_low l w _ sz (nI i) b hb0) gX3_set_X3_low rfl hd_X3_low ⟨⟨Nat.le_of_ble_eq_true rfl, Nat.le_of_ble_eq_true rfl⟩, Nat.le_of_ble_eq_true rfl, Nat.le_of_ble_eq_true rfl⟩ rfl rfl rfl (Nat.le_of_ble_eq_true rfl) rfl ?_
        refine V.iload_n k dX3_set_20 rfl ?_
        refine V.iload_n k dX3_set_21 rfl ?_
        refine V.cS (As := [.int (nI (r)), .int (nI (b))]) (st1 := [.int (nI (tn (nI r) % 2 ^ b)), .int (nI (tn (nI i) % 2 ^ b))]) k dX3_set_22 (c_X3_low l w _ sz (nI r) b hb0) gX3_set_X3_low rfl hd_X3_low ⟨⟨Nat.le_of_ble_eq_true rfl, Nat.le_of_ble_eq_true rfl⟩, Nat.le_of_ble_eq_true rfl, Nat.le_of_ble_eq_true rfl⟩ rfl rfl rfl (Nat.le_of_ble_eq_true rfl) rfl ?_
        rw [tn_nI (by omega : i < 2 ^ 32), tn_nI (by omega : r < 2 ^ 32)]
        refine V.n_ne (tgt := 44) k dX3_set_25 (by decide) (mod_lt31 _ hb0) (mod_lt31 _ hb0) (fun hc => ?_) (fun hc => ?_)
        · refine V.pic (by rw [← setN_no N hc]) ?_
          refine V.iinc (x := (nI (i))) (v := (nI (i + 1))) (L' := [some (.ref (y)), some (.int (nI (r))), some (.int (nI (b))), some (.int (nI (nl))), some (.int (nI (i + 1)))]) k dX3_set_44 rfl (nI_inc1 _) rfl ?_
          refine V.goto (tgt := 3) k dX3_set_47 (by decide) ?_
          exact ih (i + 1) (by omega) (by omega)
        · refine V.aload_n k dX3_set_28 rfl ?_
          refine V.getf (v := .ref (y + 3)) k dX3_set_29 fl_X3_set_16 (ms_o y F K (setN N i r b nl) Z G0) rfl ?_
          refine V.iload k dX3_set_32 rfl ?_
          refine V.iload_n k dX3_set_34 rfl ?_
          refine V.iast (f' := upd (fun j => nI ((setN N i r b nl) 0 j)) (i) (nI (nl))) k dX3_set_35 (ms_3 y F K (setN N i r b nl) Z G0) rfl (by omega) (by omega) rfl ?_
          refine V.pic (msw_3 y F K (setN N i r b nl) Z G0 (i) (nl)) ?_
          refine V.aload_n k dX3_set_36 rfl ?_
          refine V.getf (v := .ref (y + 4)) k dX3_set_37 fl_X3_set_19 (ms_o y F K (va_up (setN N i r b nl) 0 (va_up ((setN N i r b nl) 0) (i) (nl))) Z G0) rfl ?_
          refine V.iload k dX3_set_40 rfl ?_
          refine V.iconst (v := nI 0) k dX3_set_42 (by decide) ?_
          refine V.iast (f' := upd (fun j => nI ((va_up (setN N i r b nl) 0 (va_up ((setN N i r b nl) 0) (i) (nl))) 1 j)) (i) (nI (0))) k dX3_set_43 (ms_4 y F K (va_up (setN N i r b nl) 0 (va_up ((setN N i r b nl) 0) (i) (nl))) Z G0) rfl (by omega) (by omega) rfl ?_
          refine V.pic (msw_4 y F K (va_up (setN N i r b nl) 0 (va_up ((setN N i r b nl) 0) (i) (nl))) Z G0 (i) (0)) ?_
          refine V.pic (by rw [setN_yes N hc]) ?_
          refine V.iinc (x := (nI (i))) (v := (nI (i + 1))) (L' := [some (.ref (y)), some (.int (nI (r))), some (.int (nI (b))), some (.int (nI (nl))), some (.int (nI (i + 1)))]) k dX3_set_44 rfl (nI_inc1 _) rfl ?_
          refine V.goto (tgt := 3) k dX3_set_47 (by decide) ?_
          exact ih (i + 1) (by omega) (by omega)
  refine V.pic (by rw [← setN_0 N r b nl]) ?_
  refine V.iconst (v := nI 0) k dX3_set_0 (by decide) ?_
  refine V.istore (L' := [some (.ref (y)), some (.int (nI (r))), some (.int (nI (b))), some (.int (nI (nl))), some (.int (nI (0)))]) k dX3_set_1 (Nat.le_of_ble_eq_true rfl) rfl ?_
  exact lp (2 ^ F 6 + 1) 0 (by omega) (by omega)
theorem fl_X3_freeCount_41 : FL wsX3_freeCount RX3 41 3 1 := ⟨RX3, TX3, 21, rfl, (fun _ h => List.mem_cons_of_mem _ (List.mem_append_right _ h)), by decide, List.mem_of_getElem? (i := 1) rfl, rfl⟩
theorem fl_X3_freeCount_34 : FL wsX3_freeCount RX3 34 3 15 := ⟨RX3, TX3, 21, rfl, (fun _ h => List.mem_cons_of_mem _ (List.mem_append_right _ h)), by decide, List.mem_of_getElem? (i := 2) rfl, rfl⟩
set_option maxHeartbeats 4000000 in
set_option maxRecDepth 100000 in
theorem c_X3_freeCount (l : Launch) (w : Wd) (y sz : Nat) (F : Nat → Nat) (K : Nat → Nat → Int32) (N : Nat → Nat → Nat) (Z : Nat → Nat → Bool) (G0 : Pic) (hB : 8 ≤ F 1) (hB2 : F 1 ≤ 200) : Ct l w yX3_freeCount wsX3_freeCount ⟨0, 0, 0, 0⟩ [.ref (y)] (mset y F K N Z G0) sz (rt (some (.int (nI (cntE (Z 0) (F 1 - 2))))) (mset y F K N Z G0) sz) := by
  refine Ct.of (cc := cX3_freeCount) (maxL := 3) (ret := (some .int)) (L := [some (.ref (y)), none, none]) (by decide +kernel) rfl (by simp [Value.category]) (by simp) rfl ?_
  intro p e s m args below meth c k hM
  have lp : ∀ (n i : Nat) , i ≤ F 1 - 2 → F 1 - 2 - i < n → V p l e ⟨0, 0, 0, 0⟩ s m args below meth c w (mset y F K N Z G0) sz 0 0 (mQ w below args s ⟨0, 0, 0, 0⟩ (rt (some (.int (nI (cntE (Z 0) (F 1 - 2))))) (mset y F K N Z G0) sz)) 4 [some (.ref (y)), some (.int (nI (cntE (Z 0) i))), some (.int (nI (i + 2)))] [] := by
    intro n
    induction n with
    | zero => intro i  h1 h2 ; omega
    | succ n ih =>
      intro i  h1 h2 
      have hc := cntE_le (Z 0) i
      refine V.iload_n k dX3_freeCount_4 rfl ?_
      refine V.aload_n k dX3_freeCount_5 rfl ?_
      refine V.getf (v := .int (nI (F 1))) k dX3_freeCount_6 fl_X3_freeCount_41 (ms_o y F K N Z G0) rfl ?_
      refine V.n_ge (tgt := 35) k dX3_freeCount_9 (by decide) (by omega) (by omega) (fun hb => ?_) (fun hb => ?_)
      · refine V.iload_n k dX3_freeCount_35 rfl ?_
        have hi : i = F 1 - 2 := by omega
        subst hi
        exact V.iret k hM dX3_freeCount_36 (Nat.le_of_ble_eq_true rfl) (Nat.le_of_ble_eq_true rfl) (rt_ok)
      · refine V.aload_n k dX3_freeCount_12 rfl ?_
        refine V.getf (v := .ref (y + 9)) k dX3_freeCount_13 fl_X3_freeCount_34 (ms_o y F K N Z G0) rfl ?_
        refine V.iload_n k dX3_freeCount_16 rfl ?_
        refine V.zald (v := (bI (Z 0 (i + 2)))) k dX3_freeCount_17 (ms_9 y F K N Z G0) rfl (by omega) (by omega) (rfl) ?_
        refine V.b_eq (tgt := 25) k dX3_freeCount_18 (by decide) (fun hc2 => ?_) (fun hc2 => ?_)
        · refine V.iload_n k dX3_freeCount_25 rfl ?_
          refine V.iconst (v := nI 1) k dX3_freeCount_26 (by decide) ?_
          refine V.iadd (v := (nI ((cntE (Z 0) i) + 1))) k dX3_freeCount_27 (nI_add _ _) ?_
          have hc3 : cntE (Z 0) i + 1 = cntE (Z 0) (i + 1) := by rw [cntE, if_neg (by simp [hc2])]
          refine V.stk (st' := [.int (nI (cntE (Z 0) (i + 1)))]) (by rw [hc3]) ?_
          refine V.istore_n (L' := [some (.ref (y)), some (.int (nI (cntE (Z 0) (i + 1)))), some (.int (nI (i + 2)))]) k dX3_freeCount_28 (Nat.le_of_ble_eq_true rfl) rfl ?_
          refine V.iinc (x := (nI (i + 2))) (v := (nI (i + 1 + 2))) (L' := [some (.ref (y)), some (.int (nI (cntE (Z 0) (i + 1)))), some (.int (nI (i + 1 + 2)))]) k dX3_freeCount_29 rfl (nI_inc1 (i + 2)) rfl ?_
          refine V.goto (tgt := 4) k dX3_freeCount_32 (by decide) ?_
          exact ih (i + 1) (by omega) (by omega)
        · refine V.iload_n k dX3_freeCount_21 rfl ?_
          refine V.goto (tgt := 28) k dX3_freeCount_22 (by decide) ?_
          have hc3 : cntE (Z 0) i = cntE (Z 0) (i + 1) := by rw [cntE, if_pos hc2]
          refine V.stk (st' := [.int (nI (cntE (Z 0) (i + 1)))]) (by rw [hc3]) ?_
          refine V.istore_n (L' := [some (.ref (y)), some (.int (nI (cntE (Z 0) (i + 1)))), some (.int (nI (i + 2)))]) k dX3_freeCount_28 (Nat.le_of_ble_eq_true rfl) rfl ?_
          refine V.iinc (x := (nI (i + 2))) (v := (nI (i + 1 + 2))) (L' := [some (.ref (y)), some (.int (nI (cntE (Z 0) (i + 1)))), some (.int (nI (i + 1 + 2)))]) k dX3_freeCount_29 rfl (nI_inc1 (i + 2)) rfl ?_
          refine V.goto (tgt := 4) k dX3_freeCount_32 (by decide) ?_
          exact ih (i + 1) (by omega) (by omega)
  refine V.iconst (v := nI 0) k dX3_freeCount_0 (by decide) ?_
  refine V.istore_n (L' := [some (.ref (y)), some (.int (nI (0))), none]) k dX3_freeCount_1 (Nat.le_of_ble_eq_true rfl) rfl ?_
  refine V.iconst (v := nI 2) k dX3_freeCount_2 (by decide) ?_
  refine V.istore_n (L' := [some (.ref (y)), some (.int (nI (0))), some (.int (nI (2)))]) k dX3_freeCount_3 (Nat.le_of_ble_eq_true rfl) rfl ?_
  exact lp (F 1 - 2 + 1) 0 (by omega) (by omega)
