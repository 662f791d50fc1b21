def mkZ (Z : Nat → Nat → Bool) (S T : Nat → Bool) : Nat → Nat → Bool := va_up (va_up Z 0 S) 1 T
def mkN (N : Nat → Nat → Nat) (H : Nat → Nat) : Nat → Nat → Nat := va_up N 1 H
theorem mkZ_id (Z : Nat → Nat → Bool) : mkZ Z (Z 0) (Z 1) = Z := by
  funext i j
  unfold mkZ va_up
  by_cases h1 : i = 1
  · simp [h1]
  · by_cases h0 : i = 0 <;> simp [h1, h0]
theorem mkN_id (N : Nat → Nat → Nat) : mkN N (N 1) = N := by
  funext i j
  unfold mkN va_up
  by_cases h1 : i = 1 <;> simp [h1]
theorem mkZ_1 (Z : Nat → Nat → Bool) (S T : Nat → Bool) (e : Nat) (v : Bool) : va_up (mkZ Z S T) 1 (va_up (mkZ Z S T 1) e v) = mkZ Z S (va_up T e v) := by
  funext i j
  unfold mkZ va_up
  by_cases h1 : i = 1 <;> simp [h1]
theorem mkZ_0 (Z : Nat → Nat → Bool) (S T : Nat → Bool) (e : Nat) (v : Bool) : va_up (mkZ Z S T) 0 (va_up (mkZ Z S T 0) e v) = mkZ Z (va_up S e v) T := by
  funext i j
  unfold mkZ va_up
  by_cases h1 : i = 1
  · simp [h1]
  · by_cases h0 : i = 0 <;> simp [h1, h0]
theorem mkN_1 (N : Nat → Nat → Nat) (H : Nat → Nat) (e v : Nat) : va_up (mkN N H) 1 (va_up (mkN N H 1) e v) = mkN N (va_up H e v) := by
  funext i j
  unfold mkN va_up
  by_cases h1 : i = 1 <;> simp [h1]
def cpT {α : Type} (A B : Nat → α) (n : Nat) : Nat → α := fun j => if j < n then A j else B j
theorem cpT_0 {α : Type} (A B : Nat → α) : cpT A B 0 = B := by
  funext j
  simp [cpT]
theorem cpT_s {α : Type} (A B : Nat → α) (n : Nat) : va_up (cpT A B n) n (A n) = cpT A B (n + 1) := by
  funext j
  unfold va_up cpT
  by_cases h : j = n
  · subst h; simp
  · have : j < n + 1 ↔ j < n := by omega
    simp [h, this]
def stB (D : Nat → Nat) (S : Nat → Bool) (H : Nat → Nat) (T : Nat → Bool) : Nat → (Nat → Nat) × (Nat → Bool)
  | 0 => (H, T)
  | e + 1 => if e % 2 ^ D e = e ∧ (stB D S H T e).1 e = 0 then (va_up (stB D S H T e).1 e (lfr S (stB D S H T e).2 198 2), va_up (stB D S H T e).2 (lfr S (stB D S H T e).2 198 2) true) else stB D S H T e
theorem stB_ge (D : Nat → Nat) (S : Nat → Bool) (H : Nat → Nat) (T : Nat → Bool) : ∀ e j, e ≤ j → (stB D S H T e).1 j = H j
  | 0, _, _ => rfl
  | e + 1, j, h => by
    have ih := stB_ge D S H T e j (by omega)
    unfold stB
    split
    · show va_up _ e _ j = _
      rw [va_up_ne _ _ (by omega : j ≠ e)]
      exact ih
    · exact ih
def stC (D : Nat → Nat) (H : Nat → Nat) : Nat → (Nat → Nat)
  | 0 => H
  | e + 1 => va_up (stC D H e) e (stC D H e (e % 2 ^ D e))
def stD (S T : Nat → Bool) : Nat → (Nat → Bool)
  | 0 => T
  | k + 1 => va_up (stD S T k) (lfr S (stD S T k) 198 2) true
def stF (H : Nat → Nat) (S : Nat → Bool) : Nat → (Nat → Bool)
  | 0 => S
  | e + 1 => va_up (stF H S e) (H e) true
def seB (F : Nat → Nat) (N : Nat → Nat → Nat) (Z : Nat → Nat → Bool) : (Nat → Nat) × (Nat → Bool) := stB (N 0) (Z 0) (N 1) (cpT (fun _ => false) (Z 1) 200) (2 ^ F 6)
def seH (F : Nat → Nat) (N : Nat → Nat → Nat) (Z : Nat → Nat → Bool) : Nat → Nat := stC (N 0) (seB F N Z).1 (2 ^ F 6)
def seT (F : Nat → Nat) (N : Nat → Nat → Nat) (Z : Nat → Nat → Bool) (g : Nat) : Nat → Bool := stD (Z 0) (seB F N Z).2 g
def seS (F : Nat → Nat) (N : Nat → Nat → Nat) (Z : Nat → Nat → Bool) (g : Nat) : Nat → Bool := stF (seH F N Z) (cpT (seT F N Z g) (Z 0) 200) (2 ^ F 6)
def cpK (K : Nat → Nat → Int32) (n : Nat) : Nat → Nat → Int32 := va_up (va_up K 2 (cpT (K 0) (K 2) n)) 3 (cpT (K 1) (K 3) n)
def cpN (N : Nat → Nat → Nat) (n : Nat) : Nat → Nat → Nat := va_up (va_up N 2 (cpT (N 0) (N 2) n)) 3 (cpT (N 1) (N 3) n)
theorem cpK_0 (K : Nat → Nat → Int32) : cpK K 0 = K := by
  funext i j
  unfold cpK va_up
  by_cases h1 : i = 3
  · subst h1; simp [cpT]
  · by_cases h0 : i = 2
    · subst h0; simp [cpT]
    · simp [h1, h0]
theorem cpN_0 (N : Nat → Nat → Nat) : cpN N 0 = N := by
  funext i j
  unfold cpN va_up
  by_cases h1 : i = 3
  · subst h1; simp [cpT]
  · by_cases h0 : i = 2
    · subst h0; simp [cpT]
    · simp [h1, h0]
theorem upd_up (f : Nat → Int32) (k : Nat) (v : Int32) : upd f k v = va_up f k v := rfl
theorem cpK_s (K : Nat → Nat → Int32) (n : Nat) : va_up (va_up (cpK K n) 2 (upd (cpK K n 2) n (cpK K n 0 n))) 3 (upd (va_up (cpK K n) 2 (upd (cpK K n 2) n (cpK K n 0 n)) 3) n (va_up (cpK K n) 2 (upd (cpK K n 2) n (cpK K n 0 n)) 1 n)) = cpK K (n + 1) := by
  funext i j
  simp only [upd_up]
  unfold cpK
  rw [← cpT_s, ← cpT_s]
  unfold va_up
  by_cases h1 : i = 3
  · subst h1; simp
  · by_cases h0 : i = 2
    · subst h0; simp
    · simp [h1, h0]
theorem cpN_s (N : Nat → Nat → Nat) (n : Nat) : va_up (va_up (cpN N n) 2 (va_up (cpN N n 2) n (cpN N n 0 n))) 3 (va_up (va_up (cpN N n) 2 (va_up (cpN N n 2) n (cpN N n 0 n)) 3) n (va_up (cpN N n) 2 (va_up (cpN N n 2) n (cpN N n 0 n)) 1 n)) = cpN N (n + 1) := by
  funext i j
  unfold cpN
  rw [← cpT_s, ← cpT_s]
  unfold va_up
  by_cases h1 : i = 3
  · subst h1; simp
  · by_cases h0 : i = 2
    · subst h0; simp
    · simp [h1, h0]
def seF (F : Nat → Nat) : Nat → Nat := va_up (va_up (va_up F 11 (F 5)) 12 (F 6)) 17 0
/-- there is always a free block to be taken -/
def SeOk (F : Nat → Nat) (N : Nat → Nat → Nat) (Z : Nat → Nat → Bool) (g : Nat) : Prop :=
  (∀ e, e < 2 ^ F 6 → e % 2 ^ N 0 e = e → (stB (N 0) (Z 0) (N 1) (cpT (fun _ => false) (Z 1) 200) e).1 e = 0 → ∃ f0, 2 ≤ f0 ∧ f0 < 200 ∧ Z 0 f0 = false ∧ (stB (N 0) (Z 0) (N 1) (cpT (fun _ => false) (Z 1) 200) e).2 f0 = false) ∧
  (∀ j, j < g → ∃ f0, 2 ≤ f0 ∧ f0 < 200 ∧ Z 0 f0 = false ∧ stD (Z 0) (seB F N Z).2 j f0 = false) ∧ (∀ e, e < 2 ^ F 6 → seH F N Z e < 200)
theorem fl_X3_settle_38 : FL wsX3_settle RX3 38 3 16 := ⟨RX3, TX3, 21, rfl, (fun _ h => List.mem_cons_of_mem _ (List.mem_append_right _ h)), by decide, List.mem_of_getElem? (i := 1) rfl, rfl⟩
theorem fl_X3_settle_56 : FL wsX3_settle RX3 56 3 6 := ⟨RX3, TX3, 21, rfl, (fun _ h => List.mem_cons_of_mem _ (List.mem_append_right _ h)), by decide, List.mem_of_getElem? (i := 2) rfl, rfl⟩
theorem fl_X3_settle_19 : FL wsX3_settle RX3 19 3 8 := ⟨RX3, TX3, 21, rfl, (fun _ h => List.mem_cons_of_mem _ (List.mem_append_right _ h)), by decide, List.mem_of_getElem? (i := 3) rfl, rfl⟩
theorem fl_X3_settle_16 : FL wsX3_settle RX3 16 3 7 := ⟨RX3, TX3, 21, rfl, (fun _ h => List.mem_cons_of_mem _ (List.mem_append_right _ h)), by decide, List.mem_of_getElem? (i := 4) rfl, rfl⟩
theorem fl_X3_settle_34 : FL wsX3_settle RX3 34 3 15 := ⟨RX3, TX3, 21, rfl, (fun _ h => List.mem_cons_of_mem _ (List.mem_append_right _ h)), by decide, List.mem_of_getElem? (i := 5) rfl, rfl⟩
theorem fl_X3_settle_63 : FL wsX3_settle RX3 63 3 5 := ⟨RX3, TX3, 21, rfl, (fun _ h => List.mem_cons_of_mem _ (List.mem_append_right _ h)), by decide, List.mem_of_getElem? (i := 6) rfl, rfl⟩
theorem fl_X3_settle_22 : FL wsX3_settle RX3 22 3 9 := ⟨RX3, TX3, 21, rfl, (fun _ h => List.mem_cons_of_mem _ (List.mem_append_right _ h)), by decide, List.mem_of_getElem? (i := 7) rfl, rfl⟩
theorem fl_X3_settle_7 : FL wsX3_settle RX3 7 3 3 := ⟨RX3, TX3, 21, rfl, (fun _ h => List.mem_cons_of_mem _ (List.mem_append_right _ h)), by decide, List.mem_of_getElem? (i := 8) rfl, rfl⟩
theorem fl_X3_settle_25 : FL wsX3_settle RX3 25 3 10 := ⟨RX3, TX3, 21, rfl, (fun _ h => List.mem_cons_of_mem _ (List.mem_append_right _ h)), by decide, List.mem_of_getElem? (i := 9) rfl, rfl⟩
theorem fl_X3_settle_13 : FL wsX3_settle RX3 13 3 4 := ⟨RX3, TX3, 21, rfl, (fun _ h => List.mem_cons_of_mem _ (List.mem_append_right _ h)), by decide, List.mem_of_getElem? (i := 10) rfl, rfl⟩
theorem fl_X3_settle_110 : FL wsX3_settle RX3 110 3 11 := ⟨RX3, TX3, 21, rfl, (fun _ h => List.mem_cons_of_mem _ (List.mem_append_right _ h)), by decide, List.mem_of_getElem? (i := 11) rfl, rfl⟩
theorem fl_X3_settle_113 : FL wsX3_settle RX3 113 3 12 := ⟨RX3, TX3, 21, rfl, (fun _ h => List.mem_cons_of_mem _ (List.mem_append_right _ h)), by decide, List.mem_of_getElem? (i := 12) rfl, rfl⟩
theorem fl_X3_settle_28 : FL wsX3_settle RX3 28 3 13 := ⟨RX3, TX3, 21, rfl, (fun _ h => List.mem_cons_of_mem _ (List.mem_append_right _ h)), by decide, List.mem_of_getElem? (i := 13) rfl, rfl⟩
theorem fl_X3_settle_31 : FL wsX3_settle RX3 31 3 14 := ⟨RX3, TX3, 21, rfl, (fun _ h => List.mem_cons_of_mem _ (List.mem_append_right _ h)), by decide, List.mem_of_getElem? (i := 14) rfl, rfl⟩
theorem fl_X3_settle_99 : FL wsX3_settle RX3 99 3 17 := ⟨RX3, TX3, 21, rfl, (fun _ h => List.mem_cons_of_mem _ (List.mem_append_right _ h)), by decide, List.mem_of_getElem? (i := 15) rfl, rfl⟩
set_option maxHeartbeats 4000000 in
set_option maxRecDepth 100000 in
theorem c_X3_settle (l : Launch) (w : Wd) (y sz : Nat) (F : Nat → Nat) (K : Nat → Nat → Int32) (N : Nat → Nat → Nat) (Z : Nat → Nat → Bool) (G0 : Pic) (g : Nat) (hg : g ≤ 8) (hn : F 5 ≤ 3100) (hd : F 6 ≤ 8) (hl : ∀ e, e < 2 ^ F 6 → N 0 e ≤ 30) (hh : ∀ e, e < 2 ^ F 6 → N 1 e ≤ 200) (hok : SeOk F N Z g) : Ct l w yX3_settle wsX3_settle ⟨2, 0, 0, 42⟩ [.ref (y), .int (nI (g))] (mset y F K N Z G0) sz (rt none (mset y (seF F) (cpK K (F 5)) (cpN (mkN N (seH F N Z)) 256) (mkZ Z (seS F N Z g) (seT F N Z g)) G0) sz) := by
  refine Ct.of (cc := cX3_settle) (maxL := 4) (ret := none) (L := [some (.ref (y)), some (.int (nI (g))), none, none]) (by decide +kernel) rfl (by simp [Value.category]) (by simp) rfl ?_
  intro p e s m args below meth c k hM
  have h8 := p2le hd
  have hp0 := p2pos (F 6)
  obtain ⟨okB, okD, okH⟩ := hok
  generalize hHH : seH F N Z = HH at okH
  generalize hTT : seT F N Z g = TT
  have hSS : seS F N Z g = stF HH (cpT TT (Z 0) 200) (2 ^ F 6) := by unfold seS; rw [hHH, hTT]
  rw [hSS]
  have lpH : ∀ (n i : Nat) , i ≤ 256 → 256 - i < n → V p l e ⟨2, 0, 0, 42⟩ s m args below meth c w (mset y (va_up (va_up F 11 (F 5)) 12 (F 6)) (cpK K (F 5)) (cpN (mkN N HH) i) (mkZ Z (stF HH (cpT TT (Z 0) 200) (2 ^ F 6)) TT) G0) sz 0 0 (mQ w below args s ⟨2, 0, 0, 42⟩ (rt none (mset y (seF F) (cpK K (F 5)) (cpN (mkN N HH) 256) (mkZ Z (stF HH (cpT TT (Z 0) 200) (2 ^ F 6)) TT) G0) sz)) 239 [some (.ref (y)), some (.int (nI (g))), some (.int (nI (i))), none] [] := by
    intro n
    induction n with
    | zero => intro i  h1 h2 ; omega
    | succ n ih =>
      intro i  h1 h2 
      refine V.iload_n k dX3_settle_239 rfl ?_
      refine V.sipush (v := nI 256) k dX3_settle_240 (by decide) ?_
      refine V.n_ge (tgt := 276) k dX3_settle_243 (by decide) (by omega) (by omega) (fun hc => ?_) (fun hc => ?_)
      · have hi : i = 256 := by omega
        subst hi
        refine V.aload_n k dX3_settle_276 rfl ?_
        refine V.iconst (v := nI 0) k dX3_settle_277 (by decide) ?_
        refine V.putf (fs' := mF y (va_up (va_up (va_up F 11 (F 5)) 12 (F 6)) 17 (0))) k dX3_settle_278 fl_X3_settle_99 ft_X3_17 (ms_o y (va_up (va_up F 11 (F 5)) 12 (F 6)) (cpK K (F 5)) (cpN (mkN N HH) 256) (mkZ Z (stF HH (cpT TT (Z 0) 200) (2 ^ F 6)) TT) G0) (by first | rfl | decide) rfl (Nat.le_of_ble_eq_true rfl) (by simp [va_up]) ?_
        refine V.pic (msF y (va_up (va_up F 11 (F 5)) 12 (F 6)) (cpK K (F 5)) (cpN (mkN N HH) 256) (mkZ Z (stF HH (cpT TT (Z 0) 200) (2 ^ F 6)) TT) G0 (va_up (va_up (va_up F 11 (F 5)) 12 (F 6)) 17 (0))) ?_
        exact V.vret k hM dX3_settle_281 (Nat.le_of_ble_eq_true rfl) (Nat.le_of_ble_eq_true rfl) (rt_ok)
      · refine V.aload_n k dX3_settle_246 rfl ?_
        refine V.getf (v := .ref (y + 7)) k dX3_settle_247 fl_X3_settle_28 (ms_o y (va_up (va_up F 11 (F 5)) 12 (F 6)) (cpK K (F 5)) (cpN (mkN N HH) i) (mkZ Z (stF HH (cpT TT (Z 0) 200) (2 ^ F 6)) TT) G0) rfl ?_
        refine V.iload_n k dX3_settle_250 rfl ?_
        refine V.aload_n k dX3_settle_251 rfl ?_
        refine V.getf (v := .ref (y + 3)) k dX3_settle_252 fl_X3_settle_16 (ms_o y (va_up (va_up F 11 (F 5)) 12 (F 6)) (cpK K (F 5)) (cpN (mkN N HH) i) (mkZ Z (stF HH (cpT TT (Z 0) 200) (2 ^ F 6)) TT) G0) rfl ?_
        refine V.iload_n k dX3_settle_255 rfl ?_
        refine V.iald (v := (nI ((cpN (mkN N HH) i) 0 (i)))) k dX3_settle_256 (ms_3 y (va_up (va_up F 11 (F 5)) 12 (F 6)) (cpK K (F 5)) (cpN (mkN N HH) i) (mkZ Z (stF HH (cpT TT (Z 0) 200) (2 ^ F 6)) TT) G0) rfl (by omega) (by omega) (rfl) ?_
        refine V.iast (f' := upd (fun j => nI ((cpN (mkN N HH) i) 2 j)) (i) (nI ((cpN (mkN N HH) i) 0 (i)))) k dX3_settle_257 (ms_7 y (va_up (va_up F 11 (F 5)) 12 (F 6)) (cpK K (F 5)) (cpN (mkN N HH) i) (mkZ Z (stF HH (cpT TT (Z 0) 200) (2 ^ F 6)) TT) G0) rfl (by omega) (by omega) rfl ?_
        refine V.pic (msw_7 y (va_up (va_up F 11 (F 5)) 12 (F 6)) (cpK K (F 5)) (cpN (mkN N HH) i) (mkZ Z (stF HH (cpT TT (Z 0) 200) (2 ^ F 6)) TT) G0 (i) ((cpN (mkN N HH) i) 0 (i))) ?_
        refine V.aload_n k dX3_settle_258 rfl ?_
        refine V.getf (v := .ref (y + 8)) k dX3_settle_259 fl_X3_settle_31 (ms_o y (va_up (va_up F 11 (F 5)) 12 (F 6)) (cpK K (F 5)) (va_up (cpN (mkN N HH) i) 2 (va_up ((cpN (mkN N HH) i) 2) (i) ((cpN (mkN N HH) i) 0 (i)))) (mkZ Z (stF HH (cpT TT (Z 0) 200) (2 ^ F 6)) TT) G0) rfl ?_
        refine V.iload_n k dX3_settle_262 rfl ?_
        refine V.aload_n k dX3_settle_263 rfl ?_
        refine V.getf (v := .ref (y + 4)) k dX3_settle_264 fl_X3_settle_19 (ms_o y (va_up (va_up F 11 (F 5)) 12 (F 6)) (cpK K (F 5)) (va_up (cpN (mkN N HH) i) 2 (va_up ((cpN (mkN N HH) i) 2) (i) ((cpN (mkN N HH) i) 0 (i)))) (mkZ Z (stF HH (cpT TT (Z 0) 200) (2 ^ F 6)) TT) G0) rfl ?_
        refine V.iload_n k dX3_settle_267 rfl ?_
        refine V.iald (v := (nI ((va_up (cpN (mkN N HH) i) 2 (va_up ((cpN (mkN N HH) i) 2) (i) ((cpN (mkN N HH) i) 0 (i)))) 1 (i)))) k dX3_settle_268 (ms_4 y (va_up (va_up F 11 (F 5)) 12 (F 6)) (cpK K (F 5)) (va_up (cpN (mkN N HH) i) 2 (va_up ((cpN (mkN N HH) i) 2) (i) ((cpN (mkN N HH) i) 0 (i)))) (mkZ Z (stF HH (cpT TT (Z 0) 200) (2 ^ F 6)) TT) G0) rfl (by omega) (by omega) (rfl) ?_
        refine V.iast (f' := upd (fun j => nI ((va_up (cpN (mkN N HH) i) 2 (va_up ((cpN (mkN N HH) i) 2) (i) ((cpN (mkN N HH) i) 0 (i)))) 3 j)) (i) (nI ((va_up (cpN (mkN N HH) i) 2 (va_up ((cpN (mkN N HH) i) 2) (i) ((cpN (mkN N HH) i) 0 (i)))) 1 (i)))) k dX3_settle_269 (ms_8 y (va_up (va_up F 11 (F 5)) 12 (F 6)) (cpK K (F 5)) (va_up (cpN (mkN N HH) i) 2 (va_up ((cpN (mkN N HH) i) 2) (i) ((cpN (mkN N HH) i) 0 (i)))) (mkZ Z (stF HH (cpT TT (Z 0) 200) (2 ^ F 6)) TT) G0) rfl (by omega) (by omega) rfl ?_
        refine V.pic (msw_8 y (va_up (va_up F 11 (F 5)) 12 (F 6)) (cpK K (F 5)) (va_up (cpN (mkN N HH) i) 2 (va_up ((cpN (mkN N HH) i) 2) (i) ((cpN (mkN N HH) i) 0 (i)))) (mkZ Z (stF HH (cpT TT (Z 0) 200) (2 ^ F 6)) TT) G0 (i) ((va_up (cpN (mkN N HH) i) 2 (va_up ((cpN (mkN N HH) i) 2) (i) ((cpN (mkN N HH) i) 0 (i)))) 1 (i))) ?_
        refine V.pic (by rw [cpN_s]) ?_
        refine V.iinc (x := (nI (i))) (v := (nI (i + 1))) (L' := [some (.ref (y)), some (.int (nI (g))), some (.int (nI (i + 1))), none]) k dX3_settle_270 rfl (nI_inc1 _) rfl ?_
        refine V.goto (tgt := 239) k dX3_settle_273 (by decide) ?_
        exact ih (i + 1) (by omega) (by omega)
  have lpG : ∀ (n i : Nat) , i ≤ F 5 → F 5 - i < n → V p l e ⟨2, 0, 0, 42⟩ s m args below meth c w (mset y F (cpK K i) (mkN N HH) (mkZ Z (stF HH (cpT TT (Z 0) 200) (2 ^ F 6)) TT) G0) sz 0 0 (mQ w below args s ⟨2, 0, 0, 42⟩ (rt none (mset y (seF F) (cpK K (F 5)) (cpN (mkN N HH) 256) (mkZ Z (stF HH (cpT TT (Z 0) 200) (2 ^ F 6)) TT) G0) sz)) 183 [some (.ref (y)), some (.int (nI (g))), some (.int (nI (i))), none] [] := by
    intro n
    induction n with
    | zero => intro i  h1 h2 ; omega
    | succ n ih =>
      intro i  h1 h2 
      refine V.iload_n k dX3_settle_183 rfl ?_
      refine V.aload_n k dX3_settle_184 rfl ?_
      refine V.getf (v := .int (nI (F 5))) k dX3_settle_185 fl_X3_settle_63 (ms_o y F (cpK K i) (mkN N HH) (mkZ Z (stF HH (cpT TT (Z 0) 200) (2 ^ F 6)) TT) G0) rfl ?_
      refine V.n_ge (tgt := 221) k dX3_settle_188 (by decide) (by omega) (by omega) (fun hc => ?_) (fun hc => ?_)
      · have hi : i = F 5 := by omega
        subst hi
        refine V.aload_n k dX3_settle_221 rfl ?_
        refine V.aload_n k dX3_settle_222 rfl ?_
        refine V.getf (v := .int (nI (F 5))) k dX3_settle_223 fl_X3_settle_63 (ms_o y F (cpK K (F 5)) (mkN N HH) (mkZ Z (stF HH (cpT TT (Z 0) 200) (2 ^ F 6)) TT) G0) rfl ?_
        refine V.putf (fs' := mF y (va_up F 11 (F 5))) k dX3_settle_226 fl_X3_settle_110 ft_X3_11 (ms_o y F (cpK K (F 5)) (mkN N HH) (mkZ Z (stF HH (cpT TT (Z 0) 200) (2 ^ F 6)) TT) G0) (by first | rfl | decide) rfl (Nat.le_of_ble_eq_true rfl) (by simp [va_up]) ?_
        refine V.pic (msF y F (cpK K (F 5)) (mkN N HH) (mkZ Z (stF HH (cpT TT (Z 0) 200) (2 ^ F 6)) TT) G0 (va_up F 11 (F 5))) ?_
        refine V.aload_n k dX3_settle_229 rfl ?_
        refine V.aload_n k dX3_settle_230 rfl ?_
        refine V.getf (v := .int (nI (F 6))) k dX3_settle_231 fl_X3_settle_56 (ms_o y (va_up F 11 (F 5)) (cpK K (F 5)) (mkN N HH) (mkZ Z (stF HH (cpT TT (Z 0) 200) (2 ^ F 6)) TT) G0) rfl ?_
        refine V.putf (fs' := mF y (va_up (va_up F 11 (F 5)) 12 (F 6))) k dX3_settle_234 fl_X3_settle_113 ft_X3_12 (ms_o y (va_up F 11 (F 5)) (cpK K (F 5)) (mkN N HH) (mkZ Z (stF HH (cpT TT (Z 0) 200) (2 ^ F 6)) TT) G0) (by first | rfl | decide) rfl (Nat.le_of_ble_eq_true rfl) (by simp [va_up]) ?_
        refine V.pic (msF y (va_up F 11 (F 5)) (cpK K (F 5)) (mkN N HH) (mkZ Z (stF HH (cpT TT (Z 0) 200) (2 ^ F 6)) TT) G0 (va_up (va_up F 11 (F 5)) 12 (F 6))) ?_
        refine V.pic (show _ = (mset y (va_up (va_up F 11 (F 5)) 12 (F 6)) (cpK K (F 5)) (mkN N HH) (mkZ Z (stF HH (cpT TT (Z 0) 200) (2 ^ F 6)) TT) G0) from rfl) ?_
        refine V.iconst (v := nI 0) k dX3_settle_237 (by decide) ?_
        refine V.istore_n (L' := [some (.ref (y)), some (.int (nI (g))), some (.int (nI (0))), none]) k dX3_settle_238 (Nat.le_of_ble_eq_true rfl) rfl ?_
        rw [← cpN_0 (mkN N HH)]
        exact lpH 257 0 (by omega) (by omega)
      · refine V.aload_n k dX3_settle_191 rfl ?_
        refine V.getf (v := .ref (y + 5)) k dX3_settle_192 fl_X3_settle_22 (ms_o y F (cpK K i) (mkN N HH) (mkZ Z (stF HH (cpT TT (Z 0) 200) (2 ^ F 6)) TT) G0) rfl ?_
        refine V.iload_n k dX3_settle_195 rfl ?_
        refine V.aload_n k dX3_settle_196 rfl ?_
        refine V.getf (v := .ref (y + 1)) k dX3_settle_197 fl_X3_settle_7 (ms_o y F (cpK K i) (mkN N HH) (mkZ Z (stF HH (cpT TT (Z 0) 200) (2 ^ F 6)) TT) G0) rfl ?_
        refine V.iload_n k dX3_settle_200 rfl ?_
        refine V.iald (v := ((cpK K i) 0 (i))) k dX3_settle_201 (ms_1 y F (cpK K i) (mkN N HH) (mkZ Z (stF HH (cpT TT (Z 0) 200) (2 ^ F 6)) TT) G0) rfl (by omega) (by omega) (rfl) ?_
        refine V.iast (f' := upd ((cpK K i) 2) (i) (((cpK K i) 0 (i)))) k dX3_settle_202 (ms_5 y F (cpK K i) (mkN N HH) (mkZ Z (stF HH (cpT TT (Z 0) 200) (2 ^ F 6)) TT) G0) rfl (by omega) (by omega) rfl ?_
        refine V.pic (msw_5 y F (cpK K i) (mkN N HH) (mkZ Z (stF HH (cpT TT (Z 0) 200) (2 ^ F 6)) TT) G0 (upd ((cpK K i) 2) (i) (((cpK K i) 0 (i))))) ?_
        refine V.aload_n k dX3_settle_203 rfl ?_
        refine V.getf (v := .ref (y + 6)) k dX3_settle_204 fl_X3_settle_25 (ms_o y F (va_up (cpK K i) 2 (upd ((cpK K i) 2) (i) (((cpK K i) 0 (i))))) (mkN N HH) (mkZ Z (stF HH (cpT TT (Z 0) 200) (2 ^ F 6)) TT) G0) rfl ?_
        refine V.iload_n k dX3_settle_207 rfl ?_
        refine V.aload_n k dX3_settle_208 rfl ?_
        refine V.getf (v := .ref (y + 2)) k dX3_settle_209 fl_X3_settle_13 (ms_o y F (va_up (cpK K i) 2 (upd ((cpK K i) 2) (i) (((cpK K i) 0 (i))))) (mkN N HH) (mkZ Z (stF HH (cpT TT (Z 0) 200) (2 ^ F 6)) TT) G0) rfl ?_
        refine V.iload_n k dX3_settle_212 rfl ?_
        refine V.iald (v := ((va_up (cpK K i) 2 (upd ((cpK K i) 2) (i) (((cpK K i) 0 (i))))) 1 (i))) k dX3_settle_213 (ms_2 y F (va_up (cpK K i) 2 (upd ((cpK K i) 2) (i) (((cpK K i) 0 (i))))) (mkN N HH) (mkZ Z (stF HH (cpT TT (Z 0) 200) (2 ^ F 6)) TT) G0) rfl (by omega) (by omega) (rfl) ?_
        refine V.iast (f' := upd ((va_up (cpK K i) 2 (upd ((cpK K i) 2) (i) (((cpK K i) 0 (i))))) 3) (i) (((va_up (cpK K i) 2 (upd ((cpK K i) 2) (i) (((cpK K i) 0 (i))))) 1 (i)))) k dX3_settle_214 (ms_6 y F (va_up (cpK K i) 2 (upd ((cpK K i) 2) (i) (((cpK K i) 0 (i))))) (mkN N HH) (mkZ Z (stF HH (cpT TT (Z 0) 200) (2 ^ F 6)) TT) G0) rfl (by omega) (by omega) rfl ?_
        refine V.pic (msw_6 y F (va_up (cpK K i) 2 (upd ((cpK K i) 2) (i) (((cpK K i) 0 (i))))) (mkN N HH) (mkZ Z (stF HH (cpT TT (Z 0) 200) (2 ^ F 6)) TT) G0 (upd ((va_up (cpK K i) 2 (upd ((cpK K i) 2) (i) (((cpK K i) 0 (i))))) 3) (i) (((va_up (cpK K i) 2 (upd ((cpK K i) 2) (i) (((cpK K i) 0 (i))))) 1 (i))))) ?_
        refine V.pic (by rw [cpK_s]) ?_
        refine V.iinc (x := (nI (i))) (v := (nI (i + 1))) (L' := [some (.ref (y)), some (.int (nI (g))), some (.int (nI (i + 1))), none]) k dX3_settle_215 rfl (nI_inc1 _) rfl ?_
        refine V.goto (tgt := 183) k dX3_settle_218 (by decide) ?_
        exact ih (i + 1) (by omega) (by omega)
  have lpF : ∀ (n i : Nat) , i ≤ 2 ^ F 6 → 2 ^ F 6 - i < n → V p l e ⟨2, 0, 0, 42⟩ s m args below meth c w (mset y F K (mkN N HH) (mkZ Z (stF HH (cpT TT (Z 0) 200) i) TT) G0) sz 0 0 (mQ w below args s ⟨2, 0, 0, 42⟩ (rt none (mset y (seF F) (cpK K (F 5)) (cpN (mkN N HH) 256) (mkZ Z (stF HH (cpT TT (Z 0) 200) (2 ^ F 6)) TT) G0) sz)) 153 [some (.ref (y)), some (.int (nI (g))), some (.int (nI (i))), none] [] := by
    intro n
    induction n with
    | zero => intro i  h1 h2 ; omega
    | succ n ih =>
      intro i  h1 h2 
      refine V.iload_n k dX3_settle_153 rfl ?_
      refine V.iconst (v := nI 1) k dX3_settle_154 (by decide) ?_
      refine V.aload_n k dX3_settle_155 rfl ?_
      refine V.getf (v := .int (nI (F 6))) k dX3_settle_156 fl_X3_settle_56 (ms_o y F K (mkN N HH) (mkZ Z (stF HH (cpT TT (Z 0) 200) i) TT) G0) rfl ?_
      refine V.ishl (v := (nI (2 ^ (F 6)))) k dX3_settle_159 (shl1 (by omega)) ?_
      refine V.n_ge (tgt := 181) k dX3_settle_160 (by decide) (by omega) (by omega) (fun hc => ?_) (fun hc => ?_)
      · have hi : i = 2 ^ F 6 := by omega
        subst hi
        refine V.iconst (v := nI 0) k dX3_settle_181 (by decide) ?_
        refine V.istore_n (L' := [some (.ref (y)), some (.int (nI (g))), some (.int (nI (0))), none]) k dX3_settle_182 (Nat.le_of_ble_eq_true rfl) rfl ?_
        rw [← cpK_0 K]
        exact lpG (F 5 + 1) 0 (by omega) (by omega)
      · have hHi := okH i hc
        refine V.aload_n k dX3_settle_163 rfl ?_
        refine V.getf (v := .ref (y + 9)) k dX3_settle_164 fl_X3_settle_34 (ms_o y F K (mkN N HH) (mkZ Z (stF HH (cpT TT (Z 0) 200) i) TT) G0) rfl ?_
        refine V.aload_n k dX3_settle_167 rfl ?_
        refine V.getf (v := .ref (y + 4)) k dX3_settle_168 fl_X3_settle_19 (ms_o y F K (mkN N HH) (mkZ Z (stF HH (cpT TT (Z 0) 200) i) TT) G0) rfl ?_
        refine V.iload_n k dX3_settle_171 rfl ?_
        refine V.iald (v := (nI ((mkN N HH) 1 (i)))) k dX3_settle_172 (ms_4 y F K (mkN N HH) (mkZ Z (stF HH (cpT TT (Z 0) 200) i) TT) G0) rfl (by omega) (by omega) (rfl) ?_
        refine V.iconst (v := nI 1) k dX3_settle_173 (by decide) ?_
        refine V.zast (x := bI (true)) (f' := upd (fun j => bI ((mkZ Z (stF HH (cpT TT (Z 0) 200) i) TT) 0 j)) ((mkN N HH) 1 (i)) (bI (true))) k dX3_settle_174 (ms_9 y F K (mkN N HH) (mkZ Z (stF HH (cpT TT (Z 0) 200) i) TT) G0) rfl (hHi) (by omega) (bI_nar _) rfl ?_
        refine V.pic (msw_9 y F K (mkN N HH) (mkZ Z (stF HH (cpT TT (Z 0) 200) i) TT) G0 ((mkN N HH) 1 (i)) (true)) ?_
        refine V.pic (by rw [mkZ_0]) ?_
        refine V.iinc (x := (nI (i))) (v := (nI (i + 1))) (L' := [some (.ref (y)), some (.int (nI (g))), some (.int (nI (i + 1))), none]) k dX3_settle_175 rfl (nI_inc1 _) rfl ?_
        refine V.goto (tgt := 153) k dX3_settle_178 (by decide) ?_
        exact ih (i + 1) (by omega) (by omega)
  have lpE : ∀ (n i : Nat) , i ≤ 200 → 200 - i < n → V p l e ⟨2, 0, 0, 42⟩ s m args below meth c w (mset y F K (mkN N HH) (mkZ Z (cpT TT (Z 0) i) TT) G0) sz 0 0 (mQ w below args s ⟨2, 0, 0, 42⟩ (rt none (mset y (seF F) (cpK K (F 5)) (cpN (mkN N HH) 256) (mkZ Z (stF HH (cpT TT (Z 0) 200) (2 ^ F 6)) TT) G0) sz)) 126 [some (.ref (y)), some (.int (nI (g))), some (.int (nI (i))), none] [] := by
    intro n
    induction n with
    | zero => intro i  h1 h2 ; omega
    | succ n ih =>
      intro i  h1 h2 
      refine V.iload_n k dX3_settle_126 rfl ?_
      refine V.sipush (v := nI 200) k dX3_settle_127 (by decide) ?_
      refine V.n_ge (tgt := 151) k dX3_settle_130 (by decide) (by omega) (by omega) (fun hc => ?_) (fun hc => ?_)
      · have hi : i = 200 := by omega
        subst hi
        refine V.iconst (v := nI 0) k dX3_settle_151 (by decide) ?_
        refine V.istore_n (L' := [some (.ref (y)), some (.int (nI (g))), some (.int (nI (0))), none]) k dX3_settle_152 (Nat.le_of_ble_eq_true rfl) rfl ?_
        exact lpF (2 ^ F 6 + 1) 0 (by omega) (by omega)
      · refine V.aload_n k dX3_settle_133 rfl ?_
        refine V.getf (v := .ref (y + 9)) k dX3_settle_134 fl_X3_settle_34 (ms_o y F K (mkN N HH) (mkZ Z (cpT TT (Z 0) i) TT) G0) rfl ?_
        refine V.iload_n k dX3_settle_137 rfl ?_
        refine V.aload_n k dX3_settle_138 rfl ?_
        refine V.getf (v := .ref (y + 10)) k dX3_settle_139 fl_X3_settle_38 (ms_o y F K (mkN N HH) (mkZ Z (cpT TT (Z 0) i) TT) G0) rfl ?_
        refine V.iload_n k dX3_settle_142 rfl ?_
        refine V.zald (v := (bI ((mkZ Z (cpT TT (Z 0) i) TT) 1 (i)))) k dX3_settle_143 (ms_10 y F K (mkN N HH) (mkZ Z (cpT TT (Z 0) i) TT) G0) rfl (by omega) (by omega) (rfl) ?_
        refine V.zast (x := bI ((mkZ Z (cpT TT (Z 0) i) TT) 1 (i))) (f' := upd (fun j => bI ((mkZ Z (cpT TT (Z 0) i) TT) 0 j)) (i) (bI ((mkZ Z (cpT TT (Z 0) i) TT) 1 (i)))) k dX3_settle_144 (ms_9 y F K (mkN N HH) (mkZ Z (cpT TT (Z 0) i) TT) G0) rfl (by omega) (by omega) (bI_nar _) rfl ?_
        refine V.pic (msw_9 y F K (mkN N HH) (mkZ Z (cpT TT (Z 0) i) TT) G0 (i) ((mkZ Z (cpT TT (Z 0) i) TT) 1 (i))) ?_
        refine V.pic (by rw [mkZ_0]) ?_
        refine V.pic (show _ = (mset y F K (mkN N HH) (mkZ Z (cpT TT (Z 0) (i + 1)) TT) G0) by rw [← cpT_s]; rfl) ?_
        refine V.iinc (x := (nI (i))) (v := (nI (i + 1))) (L' := [some (.ref (y)), some (.int (nI (g))), some (.int (nI (i + 1))), none]) k dX3_settle_145 rfl (nI_inc1 _) rfl ?_
        refine V.goto (tgt := 126) k dX3_settle_148 (by decide) ?_
        exact ih (i + 1) (by omega) (by omega)
  have lpD : ∀ (n i : Nat) , i ≤ g → g - i < n → V p l e ⟨2, 0, 0, 42⟩ s m args below meth c w (mset y F K (mkN N HH) (mkZ Z (Z 0) (stD (Z 0) (seB F N Z).2 i)) G0) sz 0 0 (mQ w below args s ⟨2, 0, 0, 42⟩ (rt none (mset y (seF F) (cpK K (F 5)) (cpN (mkN N HH) 256) (mkZ Z (stF HH (cpT TT (Z 0) 200) (2 ^ F 6)) TT) G0) sz)) 108 [some (.ref (y)), some (.int (nI (g))), some (.int (nI (i))), none] [] := by
    intro n
    induction n with
    | zero => intro i  h1 h2 ; omega
    | succ n ih =>
      intro i  h1 h2 
      refine V.iload_n k dX3_settle_108 rfl ?_
      refine V.iload_n k dX3_settle_109 rfl ?_
      refine V.n_ge (tgt := 124) k dX3_settle_110 (by decide) (by omega) (by omega) (fun hc => ?_) (fun hc => ?_)
      · have hi : g = i := by omega
        subst hi
        have hTg : stD (Z 0) (seB F N Z).2 g = TT := hTT
        rw [hTg]
        refine V.iconst (v := nI 0) k dX3_settle_124 (by decide) ?_
        refine V.istore_n (L' := [some (.ref (y)), some (.int (nI (g))), some (.int (nI (0))), none]) k dX3_settle_125 (Nat.le_of_ble_eq_true rfl) rfl ?_
        refine V.pic (show _ = (mset y F K (mkN N HH) (mkZ Z (cpT TT (Z 0) 0) TT) G0) by rw [cpT_0]) ?_
        exact lpE 201 0 (by omega) (by omega)
      · obtain ⟨f0, hf2, hf3, hf4, hf5⟩ := okD i hc
        refine V.aload_n k dX3_settle_113 rfl ?_
        refine V.cV (As := []) (ci := 3) (st1 := [.int (nI (lfr (Z 0) (stD (Z 0) (seB F N Z).2 i) 198 2))]) k dX3_settle_114 (c_X3_take l w y sz F K (mkN N HH) (mkZ Z (Z 0) (stD (Z 0) (seB F N Z).2 i)) G0 f0 hf2 hf3 hf4 hf5) gX3_settle_X3_take rfl rfl (ms_o y F K (mkN N HH) (mkZ Z (Z 0) (stD (Z 0) (seB F N Z).2 i)) G0) ⟨rfl, hd_X3_take⟩ ⟨⟨Nat.le_of_ble_eq_true rfl, Nat.le_of_ble_eq_true rfl⟩, Nat.le_of_ble_eq_true rfl, Nat.le_of_ble_eq_true rfl⟩ rfl rfl rfl (Nat.le_of_ble_eq_true rfl) rfl ?_
        refine V.pic (show _ = (mset y F K (mkN N HH) (mkZ Z (Z 0) (stD (Z 0) (seB F N Z).2 (i + 1))) G0) by rw [← show mkZ Z (Z 0) (va_up (stD (Z 0) (seB F N Z).2 i) (lfr (Z 0) (stD (Z 0) (seB F N Z).2 i) 198 2) true) = mkZ Z (Z 0) (stD (Z 0) (seB F N Z).2 (i + 1)) from rfl, ← mkZ_1]; rfl) ?_
        refine V.istore_n (L' := [some (.ref (y)), some (.int (nI (g))), some (.int (nI (i))), some (.int (nI (lfr (Z 0) (stD (Z 0) (seB F N Z).2 i) 198 2)))]) k dX3_settle_117 (Nat.le_of_ble_eq_true rfl) rfl ?_
        refine V.iinc (x := (nI (i))) (v := (nI (i + 1))) (L' := [some (.ref (y)), some (.int (nI (g))), some (.int (nI (i + 1))), some (.int (nI (lfr (Z 0) (stD (Z 0) (seB F N Z).2 i) 198 2)))]) k dX3_settle_118 rfl (nI_inc1 _) rfl ?_
        refine V.dropL 3 (L' := [some (.ref (y)), some (.int (nI (g))), some (.int (nI (i + 1))), none]) rfl ?_
        refine V.goto (tgt := 108) k dX3_settle_121 (by decide) ?_
        exact ih (i + 1) (by omega) (by omega)
  have lpC : ∀ (n i : Nat) , i ≤ 2 ^ F 6 → 2 ^ F 6 - i < n → V p l e ⟨2, 0, 0, 42⟩ s m args below meth c w (mset y F K (mkN N (stC (N 0) (seB F N Z).1 i)) (mkZ Z (Z 0) (seB F N Z).2) G0) sz 0 0 (mQ w below args s ⟨2, 0, 0, 42⟩ (rt none (mset y (seF F) (cpK K (F 5)) (cpN (mkN N HH) 256) (mkZ Z (stF HH (cpT TT (Z 0) 200) (2 ^ F 6)) TT) G0) sz)) 69 [some (.ref (y)), some (.int (nI (g))), some (.int (nI (i))), none] [] := by
    intro n
    induction n with
    | zero => intro i  h1 h2 ; omega
    | succ n ih =>
      intro i  h1 h2 
      refine V.iload_n k dX3_settle_69 rfl ?_
      refine V.iconst (v := nI 1) k dX3_settle_70 (by decide) ?_
      refine V.aload_n k dX3_settle_71 rfl ?_
      refine V.getf (v := .int (nI (F 6))) k dX3_settle_72 fl_X3_settle_56 (ms_o y F K (mkN N (stC (N 0) (seB F N Z).1 i)) (mkZ Z (Z 0) (seB F N Z).2) G0) rfl ?_
      refine V.ishl (v := (nI (2 ^ (F 6)))) k dX3_settle_75 (shl1 (by omega)) ?_
      refine V.n_ge (tgt := 106) k dX3_settle_76 (by decide) (by omega) (by omega) (fun hc => ?_) (fun hc => ?_)
      · have hi : i = 2 ^ F 6 := by omega
        subst hi
        have hHg : stC (N 0) (seB F N Z).1 (2 ^ F 6) = HH := hHH
        rw [hHg]
        refine V.iconst (v := nI 0) k dX3_settle_106 (by decide) ?_
        refine V.istore_n (L' := [some (.ref (y)), some (.int (nI (g))), some (.int (nI (0))), none]) k dX3_settle_107 (Nat.le_of_ble_eq_true rfl) rfl ?_
        exact lpD (g + 1) 0 (by omega) (by omega)
      · have hli := hl i hc
        have hmi : i % 2 ^ N 0 i ≤ i := Nat.mod_le _ _
        refine V.aload_n k dX3_settle_79 rfl ?_
        refine V.getf (v := .ref (y + 4)) k dX3_settle_80 fl_X3_settle_19 (ms_o y F K (mkN N (stC (N 0) (seB F N Z).1 i)) (mkZ Z (Z 0) (seB F N Z).2) G0) rfl ?_
        refine V.iload_n k dX3_settle_83 rfl ?_
        refine V.aload_n k dX3_settle_84 rfl ?_
        refine V.getf (v := .ref (y + 4)) k dX3_settle_85 fl_X3_settle_19 (ms_o y F K (mkN N (stC (N 0) (seB F N Z).1 i)) (mkZ Z (Z 0) (seB F N Z).2) G0) rfl ?_
        refine V.iload_n k dX3_settle_88 rfl ?_
        refine V.aload_n k dX3_settle_89 rfl ?_
        refine V.getf (v := .ref (y + 3)) k dX3_settle_90 fl_X3_settle_16 (ms_o y F K (mkN N (stC (N 0) (seB F N Z).1 i)) (mkZ Z (Z 0) (seB F N Z).2) G0) rfl ?_
        refine V.iload_n k dX3_settle_93 rfl ?_
        refine V.iald (v := (nI ((mkN N (stC (N 0) (seB F N Z).1 i)) 0 (i)))) k dX3_settle_94 (ms_3 y F K (mkN N (stC (N 0) (seB F N Z).1 i)) (mkZ Z (Z 0) (seB F N Z).2) G0) rfl (by omega) (by omega) (rfl) ?_
        refine V.cS (As := [.int (nI (i)), .int (nI ((mkN N (stC (N 0) (seB F N Z).1 i)) 0 (i)))]) (st1 := [.int (nI (tn (nI i) % 2 ^ N 0 i)), .ref (y + 4), .int (nI (i)), .ref (y + 4)]) k dX3_settle_95 (c_X3_low l w _ sz (nI i) (N 0 i) hli) gX3_settle_X3_low rfl hd_X3_low ⟨⟨Nat.le_of_ble_eq_true rfl, Nat.le_of_ble_eq_true rfl⟩, Nat.le_of_ble_eq_true rfl, Nat.le_of_ble_eq_true rfl⟩ rfl rfl rfl (Nat.le_of_ble_eq_true rfl) rfl ?_
        rw [tn_nI (by omega : i < 2 ^ 32)]
        refine V.iald (v := (nI ((mkN N (stC (N 0) (seB F N Z).1 i)) 1 (i % 2 ^ N 0 i)))) k dX3_settle_98 (ms_4 y F K (mkN N (stC (N 0) (seB F N Z).1 i)) (mkZ Z (Z 0) (seB F N Z).2) G0) rfl (by omega) (by omega) (rfl) ?_
        refine V.iast (f' := upd (fun j => nI ((mkN N (stC (N 0) (seB F N Z).1 i)) 1 j)) (i) (nI ((mkN N (stC (N 0) (seB F N Z).1 i)) 1 (i % 2 ^ N 0 i)))) k dX3_settle_99 (ms_4 y F K (mkN N (stC (N 0) (seB F N Z).1 i)) (mkZ Z (Z 0) (seB F N Z).2) G0) rfl (by omega) (by omega) rfl ?_
        refine V.pic (msw_4 y F K (mkN N (stC (N 0) (seB F N Z).1 i)) (mkZ Z (Z 0) (seB F N Z).2) G0 (i) ((mkN N (stC (N 0) (seB F N Z).1 i)) 1 (i % 2 ^ N 0 i))) ?_
        refine V.pic (by rw [mkN_1]) ?_
        refine V.iinc (x := (nI (i))) (v := (nI (i + 1))) (L' := [some (.ref (y)), some (.int (nI (g))), some (.int (nI (i + 1))), none]) k dX3_settle_100 rfl (nI_inc1 _) rfl ?_
        refine V.goto (tgt := 69) k dX3_settle_103 (by decide) ?_
        exact ih (i + 1) (by omega) (by omega)
  have lpB : ∀ (n i : Nat) , i ≤ 2 ^ F 6 → 2 ^ F 6 - i < n → V p l e ⟨2, 0, 0, 42⟩ s m args below meth c w (mset y F K (mkN N (stB (N 0) (Z 0) (N 1) (cpT (fun _ => false) (Z 1) 200) i).1) (mkZ Z (Z 0) (stB (N 0) (Z 0) (N 1) (cpT (fun _ => false) (Z 1) 200) i).2) G0) sz 0 0 (mQ w below args s ⟨2, 0, 0, 42⟩ (rt none (mset y (seF F) (cpK K (F 5)) (cpN (mkN N HH) 256) (mkZ Z (stF HH (cpT TT (Z 0) 200) (2 ^ F 6)) TT) G0) sz)) 24 [some (.ref (y)), some (.int (nI (g))), some (.int (nI (i))), none] [] := by
    intro n
    induction n with
    | zero => intro i  h1 h2 ; omega
    | succ n ih =>
      intro i  h1 h2 
      refine V.iload_n k dX3_settle_24 rfl ?_
      refine V.iconst (v := nI 1) k dX3_settle_25 (by decide) ?_
      refine V.aload_n k dX3_settle_26 rfl ?_
      refine V.getf (v := .int (nI (F 6))) k dX3_settle_27 fl_X3_settle_56 (ms_o y F K (mkN N (stB (N 0) (Z 0) (N 1) (cpT (fun _ => false) (Z 1) 200) i).1) (mkZ Z (Z 0) (stB (N 0) (Z 0) (N 1) (cpT (fun _ => false) (Z 1) 200) i).2) G0) rfl ?_
      refine V.ishl (v := (nI (2 ^ (F 6)))) k dX3_settle_30 (shl1 (by omega)) ?_
      refine V.n_ge (tgt := 67) k dX3_settle_31 (by decide) (by omega) (by omega) (fun hc => ?_) (fun hc => ?_)
      · have hi : i = 2 ^ F 6 := by omega
        subst hi
        refine V.pic (show _ = (mset y F K (mkN N (stC (N 0) (seB F N Z).1 0)) (mkZ Z (Z 0) (seB F N Z).2) G0) from rfl) ?_
        refine V.iconst (v := nI 0) k dX3_settle_67 (by decide) ?_
        refine V.istore_n (L' := [some (.ref (y)), some (.int (nI (g))), some (.int (nI (0))), none]) k dX3_settle_68 (Nat.le_of_ble_eq_true rfl) rfl ?_
        exact lpC (2 ^ F 6 + 1) 0 (by omega) (by omega)
      · have hge : (stB (N 0) (Z 0) (N 1) (cpT (fun _ => false) (Z 1) 200) i).1 i = N 1 i := stB_ge _ _ _ _ i i (Nat.le_refl _)
        have hhi := hh i hc
        have hli := hl i hc
        refine V.aload_n k dX3_settle_34 rfl ?_
        refine V.iload_n k dX3_settle_35 rfl ?_
        refine V.cV (As := [.int (nI (i))]) (ci := 3) (st1 := [.int (bI (decide (i % 2 ^ N 0 i = i)))]) k dX3_settle_36 (c_X3_isFirst l w y sz F K (mkN N (stB (N 0) (Z 0) (N 1) (cpT (fun _ => false) (Z 1) 200) i).1) (mkZ Z (Z 0) (stB (N 0) (Z 0) (N 1) (cpT (fun _ => false) (Z 1) 200) i).2) G0 i (by omega) hli) gX3_settle_X3_isFirst rfl rfl (ms_o y F K (mkN N (stB (N 0) (Z 0) (N 1) (cpT (fun _ => false) (Z 1) 200) i).1) (mkZ Z (Z 0) (stB (N 0) (Z 0) (N 1) (cpT (fun _ => false) (Z 1) 200) i).2) G0) ⟨rfl, hd_X3_isFirst⟩ ⟨⟨Nat.le_of_ble_eq_true rfl, Nat.le_of_ble_eq_true rfl⟩, Nat.le_of_ble_eq_true rfl, Nat.le_of_ble_eq_true rfl⟩ rfl rfl rfl (Nat.le_of_ble_eq_true rfl) rfl ?_
        refine V.b_eq (tgt := 61) k dX3_settle_39 (by decide) (fun hf => ?_) (fun hf => ?_)
        · refine V.pic (show _ = (mset y F K (mkN N (stB (N 0) (Z 0) (N 1) (cpT (fun _ => false) (Z 1) 200) (i + 1)).1) (mkZ Z (Z 0) (stB (N 0) (Z 0) (N 1) (cpT (fun _ => false) (Z 1) 200) (i + 1)).2) G0) by rw [stB, if_neg (fun q => (by simpa using hf : ¬ i % 2 ^ N 0 i = i) q.1)]) ?_
          refine V.iinc (x := (nI (i))) (v := (nI (i + 1))) (L' := [some (.ref (y)), some (.int (nI (g))), some (.int (nI (i + 1))), none]) k dX3_settle_61 rfl (nI_inc1 _) rfl ?_
          refine V.goto (tgt := 24) k dX3_settle_64 (by decide) ?_
          exact ih (i + 1) (by omega) (by omega)
        · have hf1 : i % 2 ^ N 0 i = i := by simpa using hf
          refine V.aload_n k dX3_settle_42 rfl ?_
          refine V.getf (v := .ref (y + 4)) k dX3_settle_43 fl_X3_settle_19 (ms_o y F K (mkN N (stB (N 0) (Z 0) (N 1) (cpT (fun _ => false) (Z 1) 200) i).1) (mkZ Z (Z 0) (stB (N 0) (Z 0) (N 1) (cpT (fun _ => false) (Z 1) 200) i).2) G0) rfl ?_
          refine V.iload_n k dX3_settle_46 rfl ?_
          refine V.iald (v := (nI ((mkN N (stB (N 0) (Z 0) (N 1) (cpT (fun _ => false) (Z 1) 200) i).1) 1 (i)))) k dX3_settle_47 (ms_4 y F K (mkN N (stB (N 0) (Z 0) (N 1) (cpT (fun _ => false) (Z 1) 200) i).1) (mkZ Z (Z 0) (stB (N 0) (Z 0) (N 1) (cpT (fun _ => false) (Z 1) 200) i).2) G0) rfl (by omega) (by omega) (rfl) ?_
          refine V.stk (st' := [.int (nI (N 1 i))]) (by rw [← hge]; rfl) ?_
          refine V.z_ne (tgt := 61) k dX3_settle_48 (by decide) (by omega) (fun hz => ?_) (fun hz => ?_)
          · refine V.pic (show _ = (mset y F K (mkN N (stB (N 0) (Z 0) (N 1) (cpT (fun _ => false) (Z 1) 200) (i + 1)).1) (mkZ Z (Z 0) (stB (N 0) (Z 0) (N 1) (cpT (fun _ => false) (Z 1) 200) (i + 1)).2) G0) by rw [stB, if_neg (fun q => by have := q.2; rw [hge] at this; omega)]) ?_
            refine V.iinc (x := (nI (i))) (v := (nI (i + 1))) (L' := [some (.ref (y)), some (.int (nI (g))), some (.int (nI (i + 1))), none]) k dX3_settle_61 rfl (nI_inc1 _) rfl ?_
            refine V.goto (tgt := 24) k dX3_settle_64 (by decide) ?_
            exact ih (i + 1) (by omega) (by omega)
          · obtain ⟨f0, hf2, hf3, hf4, hf5⟩ := okB i hc hf1 (by rw [hge]; exact hz)
            refine V.aload_n k dX3_settle_51 rfl ?_
            refine V.getf (v := .ref (y + 4)) k dX3_settle_52 fl_X3_settle_19 (ms_o y F K (mkN N (stB (N 0) (Z 0) (N 1) (cpT (fun _ => false) (Z 1) 200) i).1) (mkZ Z (Z 0) (stB (N 0) (Z 0) (N 1) (cpT (fun _ => false) (Z 1) 200) i).2) G0) rfl ?_
            refine V.iload_n k dX3_settle_55 rfl ?_
            refine V.aload_n k dX3_settle_56 rfl ?_
            refine V.cV (As := []) (ci := 3) (st1 := [.int (nI (lfr (Z 0) (stB (N 0) (Z 0) (N 1) (cpT (fun _ => false) (Z 1) 200) i).2 198 2)), .int (nI (i)), .ref (y + 4)]) k dX3_settle_57 (c_X3_take l w y sz F K (mkN N (stB (N 0) (Z 0) (N 1) (cpT (fun _ => false) (Z 1) 200) i).1) (mkZ Z (Z 0) (stB (N 0) (Z 0) (N 1) (cpT (fun _ => false) (Z 1) 200) i).2) G0 f0 hf2 hf3 hf4 hf5) gX3_settle_X3_take rfl rfl (ms_o y F K (mkN N (stB (N 0) (Z 0) (N 1) (cpT (fun _ => false) (Z 1) 200) i).1) (mkZ Z (Z 0) (stB (N 0) (Z 0) (N 1) (cpT (fun _ => false) (Z 1) 200) i).2) G0) ⟨rfl, hd_X3_take⟩ ⟨⟨Nat.le_of_ble_eq_true rfl, Nat.le_of_ble_eq_true rfl⟩, Nat.le_of_ble_eq_true rfl, Nat.le_of_ble_eq_true rfl⟩ rfl rfl rfl (Nat.le_of_ble_eq_true rfl) rfl ?_
            refine V.pic (show _ = mset y F K (mkN N (stB (N 0) (Z 0) (N 1) (cpT (fun _ => false) (Z 1) 200) i).1) (mkZ Z (Z 0) (va_up (stB (N 0) (Z 0) (N 1) (cpT (fun _ => false) (Z 1) 200) i).2 (lfr (Z 0) (stB (N 0) (Z 0) (N 1) (cpT (fun _ => false) (Z 1) 200) i).2 198 2) true)) G0 by rw [← mkZ_1]; rfl) ?_
            refine V.iast (f' := upd (fun j => nI ((mkN N (stB (N 0) (Z 0) (N 1) (cpT (fun _ => false) (Z 1) 200) i).1) 1 j)) (i) (nI (lfr (Z 0) (stB (N 0) (Z 0) (N 1) (cpT (fun _ => false) (Z 1) 200) i).2 198 2))) k dX3_settle_60 (ms_4 y F K (mkN N (stB (N 0) (Z 0) (N 1) (cpT (fun _ => false) (Z 1) 200) i).1) (mkZ Z (Z 0) (va_up (stB (N 0) (Z 0) (N 1) (cpT (fun _ => false) (Z 1) 200) i).2 (lfr (Z 0) (stB (N 0) (Z 0) (N 1) (cpT (fun _ => false) (Z 1) 200) i).2 198 2) true)) G0) rfl (by omega) (by omega) rfl ?_
            refine V.pic (msw_4 y F K (mkN N (stB (N 0) (Z 0) (N 1) (cpT (fun _ => false) (Z 1) 200) i).1) (mkZ Z (Z 0) (va_up (stB (N 0) (Z 0) (N 1) (cpT (fun _ => false) (Z 1) 200) i).2 (lfr (Z 0) (stB (N 0) (Z 0) (N 1) (cpT (fun _ => false) (Z 1) 200) i).2 198 2) true)) G0 (i) (lfr (Z 0) (stB (N 0) (Z 0) (N 1) (cpT (fun _ => false) (Z 1) 200) i).2 198 2)) ?_
            refine V.pic (by rw [mkN_1]) ?_
            refine V.pic (show _ = (mset y F K (mkN N (stB (N 0) (Z 0) (N 1) (cpT (fun _ => false) (Z 1) 200) (i + 1)).1) (mkZ Z (Z 0) (stB (N 0) (Z 0) (N 1) (cpT (fun _ => false) (Z 1) 200) (i + 1)).2) G0) by rw [show stB (N 0) (Z 0) (N 1) (cpT (fun _ => false) (Z 1) 200) (i + 1) = (va_up (stB (N 0) (Z 0) (N 1) (cpT (fun _ => false) (Z 1) 200) i).1 i (lfr (Z 0) (stB (N 0) (Z 0) (N 1) (cpT (fun _ => false) (Z 1) 200) i).2 198 2), va_up (stB (N 0) (Z 0) (N 1) (cpT (fun _ => false) (Z 1) 200) i).2 (lfr (Z 0) (stB (N 0) (Z 0) (N 1) (cpT (fun _ => false) (Z 1) 200) i).2 198 2) true) by rw [stB, if_pos ⟨hf1, by rw [hge]; exact hz⟩]]) ?_
            refine V.iinc (x := (nI (i))) (v := (nI (i + 1))) (L' := [some (.ref (y)), some (.int (nI (g))), some (.int (nI (i + 1))), none]) k dX3_settle_61 rfl (nI_inc1 _) rfl ?_
            refine V.goto (tgt := 24) k dX3_settle_64 (by decide) ?_
            exact ih (i + 1) (by omega) (by omega)
  have lpA : ∀ (n i : Nat) , i ≤ 200 → 200 - i < n → V p l e ⟨2, 0, 0, 42⟩ s m args below meth c w (mset y F K N (mkZ Z (Z 0) (cpT (fun _ => false) (Z 1) i)) G0) sz 0 0 (mQ w below args s ⟨2, 0, 0, 42⟩ (rt none (mset y (seF F) (cpK K (F 5)) (cpN (mkN N HH) 256) (mkZ Z (stF HH (cpT TT (Z 0) 200) (2 ^ F 6)) TT) G0) sz)) 2 [some (.ref (y)), some (.int (nI (g))), some (.int (nI (i))), none] [] := by
    intro n
    induction n with
    | zero => intro i  h1 h2 ; omega
    | succ n ih =>
      intro i  h1 h2 
      refine V.iload_n k dX3_settle_2 rfl ?_
      refine V.sipush (v := nI 200) k dX3_settle_3 (by decide) ?_
      refine V.n_ge (tgt := 22) k dX3_settle_6 (by decide) (by omega) (by omega) (fun hc => ?_) (fun hc => ?_)
      · have hi : i = 200 := by omega
        subst hi
        refine V.pic (show _ = (mset y F K (mkN N (stB (N 0) (Z 0) (N 1) (cpT (fun _ => false) (Z 1) 200) 0).1) (mkZ Z (Z 0) (stB (N 0) (Z 0) (N 1) (cpT (fun _ => false) (Z 1) 200) 0).2) G0) by rw [show (stB (N 0) (Z 0) (N 1) (cpT (fun _ => false) (Z 1) 200) 0).1 = N 1 from rfl, mkN_id]; rfl) ?_
        refine V.iconst (v := nI 0) k dX3_settle_22 (by decide) ?_
        refine V.istore_n (L' := [some (.ref (y)), some (.int (nI (g))), some (.int (nI (0))), none]) k dX3_settle_23 (Nat.le_of_ble_eq_true rfl) rfl ?_
        exact lpB (2 ^ F 6 + 1) 0 (by omega) (by omega)
      · refine V.aload_n k dX3_settle_9 rfl ?_
        refine V.getf (v := .ref (y + 10)) k dX3_settle_10 fl_X3_settle_38 (ms_o y F K N (mkZ Z (Z 0) (cpT (fun _ => false) (Z 1) i)) G0) rfl ?_
        refine V.iload_n k dX3_settle_13 rfl ?_
        refine V.iconst (v := nI 0) k dX3_settle_14 (by decide) ?_
        refine V.zast (x := bI (false)) (f' := upd (fun j => bI ((mkZ Z (Z 0) (cpT (fun _ => false) (Z 1) i)) 1 j)) (i) (bI (false))) k dX3_settle_15 (ms_10 y F K N (mkZ Z (Z 0) (cpT (fun _ => false) (Z 1) i)) G0) rfl (by omega) (by omega) (bI_nar _) rfl ?_
        refine V.pic (msw_10 y F K N (mkZ Z (Z 0) (cpT (fun _ => false) (Z 1) i)) G0 (i) (false)) ?_
        refine V.pic (by rw [mkZ_1]) ?_
        refine V.pic (show _ = (mset y F K N (mkZ Z (Z 0) (cpT (fun _ => false) (Z 1) (i + 1))) G0) by rw [← cpT_s]) ?_
        refine V.iinc (x := (nI (i))) (v := (nI (i + 1))) (L' := [some (.ref (y)), some (.int (nI (g))), some (.int (nI (i + 1))), none]) k dX3_settle_16 rfl (nI_inc1 _) rfl ?_
        refine V.goto (tgt := 2) k dX3_settle_19 (by decide) ?_
        exact ih (i + 1) (by omega) (by omega)
  refine V.iconst (v := nI 0) k dX3_settle_0 (by decide) ?_
  refine V.istore_n (L' := [some (.ref (y)), some (.int (nI (g))), some (.int (nI (0))), none]) k dX3_settle_1 (Nat.le_of_ble_eq_true rfl) rfl ?_
  refine V.pic (show _ = (mset y F K N (mkZ Z (Z 0) (cpT (fun _ => false) (Z 1) 0)) G0) by rw [cpT_0, mkZ_id]) ?_
  exact lpA 201 0 (by omega) (by omega)
