/-- the least block from b on that is in neither row -/
def lfr (S T : Nat → Bool) : Nat → Nat → Nat
  | 0, b => b
  | n + 1, b => if S b = true ∨ T b = true then lfr S T n (b + 1) else b
theorem lfr_stop {S T : Nat → Bool} {n b : Nat} (h1 : S b = false) (h2 : T b = false) : lfr S T n b = b := by
  cases n with
  | zero => rfl
  | succ n => unfold lfr; rw [if_neg (by simp [h1, h2])]
theorem lfr_go {S T : Nat → Bool} {n b : Nat} (h : S b = true ∨ T b = true) : lfr S T (n + 1) b = lfr S T n (b + 1) := by
  rw [lfr, if_pos h]
def ansBucket (F : Nat → Nat) (K : Nat → Nat → Int32) (N : Nat → Nat → Nat) (k what : Int32) : Int32 :=
  if F 18 = 0 then (if what = 0 then nI (N 0 (hx k % 2 ^ F 6)) else if what = nI 1 then nI (cnt (K 0) (hx k % 2 ^ F 6) (N 0 (hx k % 2 ^ F 6)) (F 5)) else if what = nI 2 then nI (N 1 (hx k % 2 ^ F 6)) else nI 0) else (-2000000003)
def dblN (N : Nat → Nat → Nat) (E n : Nat) : Nat → Nat → Nat := fun i j => if (i = 0 ∨ i = 1) ∧ E ≤ j ∧ j < E + n then N i (j - E) else N i j
theorem dblN_0 (N : Nat → Nat → Nat) (E : Nat) : dblN N E 0 = N := by
  funext i j
  unfold dblN
  rw [if_neg (by omega)]
theorem dblN_s (N : Nat → Nat → Nat) {E i : Nat} (h : i < E) : va_up (va_up (dblN N E i) 0 (va_up (dblN N E i 0) (i + E) (dblN N E i 0 i))) 1 (va_up (va_up (dblN N E i) 0 (va_up (dblN N E i 0) (i + E) (dblN N E i 0 i)) 1) (i + E) (va_up (dblN N E i) 0 (va_up (dblN N E i 0) (i + E) (dblN N E i 0 i)) 1 i)) = dblN N E (i + 1) := by
  funext a j
  have e1 : ∀ q, ¬ q = i + E → ((E ≤ q ∧ q < E + (i + 1)) ↔ (E ≤ q ∧ q < E + i)) := fun q hq => ⟨fun z => ⟨z.1, by omega⟩, fun z => ⟨z.1, by omega⟩⟩
  have e2 : ¬ (E ≤ i ∧ i < E + i) := by omega
  have e3 : E ≤ i + E ∧ i + E < E + (i + 1) := by omega
  have e4 : i + E - E = i := by omega
  unfold va_up dblN
  by_cases h1 : a = 1
  · subst h1
    by_cases hj : j = i + E
    · subst hj; simp [show ¬ E ≤ i by omega, e3]
    · simp [hj, e1 j hj]
  · by_cases h0 : a = 0
    · subst h0
      by_cases hj : j = i + E
      · subst hj; simp [show ¬ E ≤ i by omega, e3]
      · simp [hj, e1 j hj]
    · simp [h0, h1]
/-- a key's entry's bits -/
def eb (F : Nat → Nat) (N : Nat → Nat → Nat) (k : Int32) : Nat := N 0 (hx k % 2 ^ F 6)
def spF (F : Nat → Nat) (N : Nat → Nat → Nat) (k : Int32) : Nat → Nat := if eb F N k = F 6 then va_up F 6 (F 6 + 1) else F
def spM (F : Nat → Nat) (N : Nat → Nat → Nat) (k : Int32) : Nat → Nat → Nat := if eb F N k = F 6 then dblN N (2 ^ F 6) (2 ^ F 6) else N
def spN (F : Nat → Nat) (N : Nat → Nat → Nat) (k : Int32) : Nat → Nat → Nat := setN (spM F N k) (2 ^ spF F N k 6) (hx k % 2 ^ spF F N k 6) (eb F N k) (eb F N k + 1)
/-- the first depth from b on in which fewer than fifteen agree, nine at most -/
def stp (K : Nat → Int32) (r n : Nat) : Nat → Nat → Nat
  | 0, b => b
  | f + 1, b => if b < 9 ∧ 15 ≤ cnt K r b n then stp K r n f (b + 1) else b
def tgB (F : Nat → Nat) (K : Nat → Nat → Int32) (N : Nat → Nat → Nat) (k : Int32) : Nat := stp (K 0) (hx k) (F 5) 10 (eb F N k)
def hasR (F : Nat → Nat) (K : Nat → Nat → Int32) (N : Nat → Nat → Nat) (k : Int32) : Bool :=
  decide (tgB F K N k = eb F N k ∨ (max (F 6) (tgB F K N k) ≤ F 2 ∧ cntF (N 0) (2 ^ F 6) + (tgB F K N k - eb F N k) + drB (max (F 6) (tgB F K N k)) ≤ F 1 - 2))
theorem fl_X3_take_34 : FL wsX3_take RX3 34 3 15 := ⟨RX3, TX3, 21, rfl, (fun _ h => List.mem_cons_of_mem _ (List.mem_append_right _ h)), by decide, List.mem_of_getElem? (i := 1) rfl, rfl⟩
theorem fl_X3_take_38 : FL wsX3_take RX3 38 3 16 := ⟨RX3, TX3, 21, rfl, (fun _ h => List.mem_cons_of_mem _ (List.mem_append_right _ h)), by decide, List.mem_of_getElem? (i := 2) rfl, rfl⟩
set_option maxHeartbeats 4000000 in
set_option maxRecDepth 100000 in
theorem c_X3_take (l : Launch) (w : Wd) (y sz : Nat) (F : Nat → Nat) (K : Nat → Nat → Int32) (N : Nat → Nat → Nat) (Z : Nat → Nat → Bool) (G0 : Pic) (f0 : Nat) (h2 : 2 ≤ f0) (hf : f0 < 200) (hS : Z 0 f0 = false) (hT : Z 1 f0 = false) : Ct l w yX3_take wsX3_take ⟨0, 0, 0, 0⟩ [.ref (y)] (mset y F K N Z G0) sz (rt (some (.int (nI (lfr (Z 0) (Z 1) 198 2)))) (mset y F K N (va_up Z 1 (va_up (Z 1) (lfr (Z 0) (Z 1) 198 2) true)) G0) sz) := by
  refine Ct.of (cc := cX3_take) (maxL := 2) (ret := (some .int)) (L := [some (.ref (y)), none]) (by decide +kernel) rfl (by simp [Value.category]) (by simp) rfl ?_
  intro p e s m args below meth c k hM
  generalize hA : lfr (Z 0) (Z 1) 198 2 = A
  have fin : ∀ i, i + 2 < 200 → i + 2 = A → V p l e ⟨0, 0, 0, 0⟩ s m args below meth c w (mset y F K N Z G0) sz 0 0 (mQ w below args s ⟨0, 0, 0, 0⟩ (rt (some (.int (nI (A)))) (mset y F K N (va_up Z 1 (va_up (Z 1) (A) true)) G0) sz)) 26 [some (.ref (y)), some (.int (nI (i + 2)))] [] := by
    intro i h1 h2
    subst h2
    refine V.aload_n k dX3_take_26 rfl ?_
    refine V.getf (v := .ref (y + 10)) k dX3_take_27 fl_X3_take_38 (ms_o y F K N Z G0) rfl ?_
    refine V.iload_n k dX3_take_30 rfl ?_
    refine V.iconst (v := nI 1) k dX3_take_31 (by decide) ?_
    refine V.zast (x := bI (true)) (f' := upd (fun j => bI (Z 1 j)) (i + 2) (bI (true))) k dX3_take_32 (ms_10 y F K N Z G0) rfl (by omega) (by omega) (bI_nar _) rfl ?_
    refine V.pic (msw_10 y F K N Z G0 (i + 2) (true)) ?_
    refine V.iload_n k dX3_take_33 rfl ?_
    exact V.iret k hM dX3_take_34 (Nat.le_of_ble_eq_true rfl) (Nat.le_of_ble_eq_true rfl) (rt_ok)
  have lp : ∀ (n i : Nat) , i ≤ 198 → 198 - i < n → (i + 2 ≤ f0) → (lfr (Z 0) (Z 1) (198 - i) (i + 2) = A) → V p l e ⟨0, 0, 0, 0⟩ s m args below meth c w (mset y F K N Z G0) sz 0 0 (mQ w below args s ⟨0, 0, 0, 0⟩ (rt (some (.int (nI (A)))) (mset y F K N (va_up Z 1 (va_up (Z 1) (A) true)) G0) sz)) 2 [some (.ref (y)), some (.int (nI (i + 2)))] [] := by
    intro n
    induction n with
    | zero => intro i  h1 h2 hb hk; omega
    | succ n ih =>
      intro i  h1 h2 hb hk
      refine V.aload_n k dX3_take_2 rfl ?_
      refine V.getf (v := .ref (y + 9)) k dX3_take_3 fl_X3_take_34 (ms_o y F K N Z G0) rfl ?_
      refine V.iload_n k dX3_take_6 rfl ?_
      refine V.zald (v := (bI (Z 0 (i + 2)))) k dX3_take_7 (ms_9 y F K N Z G0) rfl (by omega) (by omega) (rfl) ?_
      refine V.b_ne (tgt := 20) k dX3_take_8 (by decide) (fun hs => ?_) (fun hs => ?_)
      · have hne : ¬ i + 2 = f0 := by
          intro q
          rw [q] at hs
          simp [hS, hT] at hs
        rw [show 198 - i = (198 - (i + 1)) + 1 by omega, lfr_go (Or.inl hs)] at hk
        refine V.iinc (x := (nI (i + 2))) (v := (nI (i + 1 + 2))) (L' := [some (.ref (y)), some (.int (nI (i + 1 + 2)))]) k dX3_take_20 rfl (nI_inc1 (i + 2)) rfl ?_
        refine V.goto (tgt := 2) k dX3_take_23 (by decide) ?_
        exact ih (i + 1) (by omega) (by omega) (by omega) hk
      · refine V.aload_n k dX3_take_11 rfl ?_
        refine V.getf (v := .ref (y + 10)) k dX3_take_12 fl_X3_take_38 (ms_o y F K N Z G0) rfl ?_
        refine V.iload_n k dX3_take_15 rfl ?_
        refine V.zald (v := (bI (Z 1 (i + 2)))) k dX3_take_16 (ms_10 y F K N Z G0) rfl (by omega) (by omega) (rfl) ?_
        refine V.b_eq (tgt := 26) k dX3_take_17 (by decide) (fun ht => ?_) (fun ht => ?_)
        · exact fin i (by omega) (by rw [lfr_stop hs ht] at hk; exact hk)
        · have hne : ¬ i + 2 = f0 := by
            intro q
            rw [q] at ht
            simp [hS, hT] at ht
          rw [show 198 - i = (198 - (i + 1)) + 1 by omega, lfr_go (Or.inr ht)] at hk
          refine V.iinc (x := (nI (i + 2))) (v := (nI (i + 1 + 2))) (L' := [some (.ref (y)), some (.int (nI (i + 1 + 2)))]) k dX3_take_20 rfl (nI_inc1 (i + 2)) rfl ?_
          refine V.goto (tgt := 2) k dX3_take_23 (by decide) ?_
          exact ih (i + 1) (by omega) (by omega) (by omega) hk
  refine V.iconst (v := nI 2) k dX3_take_0 (by decide) ?_
  refine V.istore_n (L' := [some (.ref (y)), some (.int (nI (2)))]) k dX3_take_1 (Nat.le_of_ble_eq_true rfl) rfl ?_
  exact lp 199 0 (by omega) (by omega) h2 hA
theorem fl_X3_bucket_48 : FL wsX3_bucket RX3 48 3 0 := ⟨RX3, TX3, 21, rfl, (fun _ h => List.mem_cons_of_mem _ (List.mem_append_right _ h)), by decide, List.mem_of_getElem? (i := 1) rfl, rfl⟩
theorem fl_X3_bucket_87 : FL wsX3_bucket RX3 87 3 18 := ⟨RX3, TX3, 21, rfl, (fun _ h => List.mem_cons_of_mem _ (List.mem_append_right _ h)), by decide, List.mem_of_getElem? (i := 2) rfl, rfl⟩
theorem fl_X3_bucket_16 : FL wsX3_bucket RX3 16 3 7 := ⟨RX3, TX3, 21, rfl, (fun _ h => List.mem_cons_of_mem _ (List.mem_append_right _ h)), by decide, List.mem_of_getElem? (i := 4) rfl, rfl⟩
theorem fl_X3_bucket_19 : FL wsX3_bucket RX3 19 3 8 := ⟨RX3, TX3, 21, rfl, (fun _ h => List.mem_cons_of_mem _ (List.mem_append_right _ h)), by decide, List.mem_of_getElem? (i := 5) rfl, rfl⟩
set_option maxHeartbeats 4000000 in
set_option maxRecDepth 100000 in
theorem c_X3_bucket (l : Launch) (w : Wd) (y sz : Nat) (F : Nat → Nat) (K : Nat → Nat → Int32) (N : Nat → Nat → Nat) (Z : Nat → Nat → Bool) (G0 : Pic) (k0 wh : Int32) (hn : F 5 ≤ 3100) (hd6 : F 6 ≤ 8) (hl : N 0 (hx k0 % 2 ^ F 6) ≤ 30) (hF0 : F 0 = 0) (hdn : F 18 ≤ 1) : Ct l w yX3_bucket wsX3_bucket ⟨2, 0, 0, 45⟩ [.ref (y), .int (k0), .int (wh)] (mset y F K N Z G0) sz (rt (some (.int (ansBucket F K N k0 wh))) (mset y F K N Z G0) sz) := by
  refine Ct.of (cc := cX3_bucket) (maxL := 4) (ret := (some .int)) (L := [some (.ref (y)), some (.int (k0)), some (.int (wh)), none]) (by decide +kernel) rfl (by simp [Value.category]) (by simp) rfl ?_
  intro p e s m args below meth c k hM
  have h8 := p2le hd6
  have hp0 := p2pos (F 6)
  have he : hx k0 % 2 ^ F 6 < 256 := Nat.lt_of_lt_of_le (Nat.mod_lt _ hp0) h8
  refine V.aload_n k dX3_bucket_0 rfl ?_
  refine V.iconst (v := nI 0) k dX3_bucket_1 (by decide) ?_
  refine V.putf (fs' := mF y (va_up F 0 (0))) k dX3_bucket_2 fl_X3_bucket_48 ft_X3_0 (ms_o y F K N Z G0) (by first | rfl | decide) rfl (Nat.le_of_ble_eq_true rfl) (by simp [va_up]) ?_
  refine V.pic (msF y F K N Z G0 (va_up F 0 (0))) ?_
  refine V.pic (by rw [va_up_id hF0]) ?_
  refine V.aload_n k dX3_bucket_5 rfl ?_
  refine V.getf (v := .int (nI (F 18))) k dX3_bucket_6 fl_X3_bucket_87 (ms_o y F K N Z G0) rfl ?_
  refine V.z_eq (tgt := 15) k dX3_bucket_9 (by decide) (by omega) (fun hd => ?_) (fun hd => ?_)
  · refine V.aload_n k dX3_bucket_15 rfl ?_
    refine V.iload_n k dX3_bucket_16 rfl ?_
    refine V.cV (As := [.int (k0)]) (ci := 3) (st1 := [.int (nI (hx k0 % 2 ^ F 6))]) k dX3_bucket_17 (c_X3_entry l w y sz F K N Z G0 k0 hd6) gX3_bucket_X3_entry rfl rfl (ms_o y F K N Z G0) ⟨rfl, hd_X3_entry⟩ ⟨⟨Nat.le_of_ble_eq_true rfl, Nat.le_of_ble_eq_true rfl⟩, Nat.le_of_ble_eq_true rfl, Nat.le_of_ble_eq_true rfl⟩ rfl rfl rfl (Nat.le_of_ble_eq_true rfl) rfl ?_
    refine V.istore_n (L' := [some (.ref (y)), some (.int (k0)), some (.int (wh)), some (.int (nI (hx k0 % 2 ^ F 6)))]) k dX3_bucket_20 (Nat.le_of_ble_eq_true rfl) rfl ?_
    refine V.iload_n k dX3_bucket_21 rfl ?_
    refine V.if_ne (tgt := 34) k dX3_bucket_22 (by decide) (fun h1 => ?_) (fun h1 => ?_)
    · refine V.iload_n k dX3_bucket_34 rfl ?_
      refine V.iconst (v := nI 1) k dX3_bucket_35 (by decide) ?_
      refine V.icmp_ne (tgt := 53) k dX3_bucket_36 (by decide) (fun h2 => ?_) (fun h2 => ?_)
      · refine V.iload_n k dX3_bucket_53 rfl ?_
        refine V.iconst (v := nI 2) k dX3_bucket_54 (by decide) ?_
        refine V.icmp_ne (tgt := 67) k dX3_bucket_55 (by decide) (fun h3 => ?_) (fun h3 => ?_)
        · refine V.iconst (v := nI 0) k dX3_bucket_67 (by decide) ?_
          rw [show ansBucket F K N k0 wh = nI 0 by unfold ansBucket; rw [if_pos hd, if_neg h1, if_neg h2, if_neg h3]]
          exact V.iret k hM dX3_bucket_68 (Nat.le_of_ble_eq_true rfl) (Nat.le_of_ble_eq_true rfl) (rt_ok)
        · refine V.aload_n k dX3_bucket_58 rfl ?_
          refine V.getf (v := .ref (y + 4)) k dX3_bucket_59 fl_X3_bucket_19 (ms_o y F K N Z G0) rfl ?_
          refine V.iload_n k dX3_bucket_62 rfl ?_
          refine V.iald (v := (nI (N 1 (hx k0 % 2 ^ F 6)))) k dX3_bucket_63 (ms_4 y F K N Z G0) rfl (by omega) (by omega) (rfl) ?_
          refine V.goto (tgt := 68) k dX3_bucket_64 (by decide) ?_
          rw [show ansBucket F K N k0 wh = nI (N 1 (hx k0 % 2 ^ F 6)) by unfold ansBucket; rw [if_pos hd, if_neg h1, if_neg h2, if_pos h3]]
          exact V.iret k hM dX3_bucket_68 (Nat.le_of_ble_eq_true rfl) (Nat.le_of_ble_eq_true rfl) (rt_ok)
      · refine V.aload_n k dX3_bucket_39 rfl ?_
        refine V.iload_n k dX3_bucket_40 rfl ?_
        refine V.aload_n k dX3_bucket_41 rfl ?_
        refine V.getf (v := .ref (y + 3)) k dX3_bucket_42 fl_X3_bucket_16 (ms_o y F K N Z G0) rfl ?_
        refine V.iload_n k dX3_bucket_45 rfl ?_
        refine V.iald (v := (nI (N 0 (hx k0 % 2 ^ F 6)))) k dX3_bucket_46 (ms_3 y F K N Z G0) rfl (by omega) (by omega) (rfl) ?_
        refine V.cV (As := [.int (nI (hx k0 % 2 ^ F 6)), .int (nI (N 0 (hx k0 % 2 ^ F 6)))]) (ci := 3) (st1 := [.int (nI (cnt (K 0) (tn (nI (hx k0 % 2 ^ F 6))) (N 0 (hx k0 % 2 ^ F 6)) (F 5)))]) k dX3_bucket_47 (c_X3_many l w y sz F K N Z G0 (nI (hx k0 % 2 ^ F 6)) (N 0 (hx k0 % 2 ^ F 6)) hn hl) gX3_bucket_X3_many rfl rfl (ms_o y F K N Z G0) ⟨rfl, hd_X3_many⟩ ⟨⟨Nat.le_of_ble_eq_true rfl, Nat.le_of_ble_eq_true rfl⟩, Nat.le_of_ble_eq_true rfl, Nat.le_of_ble_eq_true rfl⟩ rfl rfl rfl (Nat.le_of_ble_eq_true rfl) rfl ?_
        refine V.goto (tgt := 68) k dX3_bucket_50 (by decide) ?_
        rw [show ansBucket F K N k0 wh = nI (cnt (K 0) (tn (nI (hx k0 % 2 ^ F 6))) (N 0 (hx k0 % 2 ^ F 6)) (F 5)) by unfold ansBucket; rw [if_pos hd, if_neg h1, if_pos h2, tn_nI (by omega : hx k0 % 2 ^ F 6 < 2 ^ 32)]]
        exact V.iret k hM dX3_bucket_68 (Nat.le_of_ble_eq_true rfl) (Nat.le_of_ble_eq_true rfl) (rt_ok)
    · refine V.aload_n k dX3_bucket_25 rfl ?_
      refine V.getf (v := .ref (y + 3)) k dX3_bucket_26 fl_X3_bucket_16 (ms_o y F K N Z G0) rfl ?_
      refine V.iload_n k dX3_bucket_29 rfl ?_
      refine V.iald (v := (nI (N 0 (hx k0 % 2 ^ F 6)))) k dX3_bucket_30 (ms_3 y F K N Z G0) rfl (by omega) (by omega) (rfl) ?_
      refine V.goto (tgt := 68) k dX3_bucket_31 (by decide) ?_
      rw [show ansBucket F K N k0 wh = nI (N 0 (hx k0 % 2 ^ F 6)) by unfold ansBucket; rw [if_pos hd, if_pos h1]]
      exact V.iret k hM dX3_bucket_68 (Nat.le_of_ble_eq_true rfl) (Nat.le_of_ble_eq_true rfl) (rt_ok)
  · refine V.ldc (v := (-2000000003)) k dX3_bucket_12 (List.mem_of_getElem? (i := 3) rfl) ?_
    rw [show ansBucket F K N k0 wh = (-2000000003) by unfold ansBucket; rw [if_neg (by omega)]]
    exact V.iret k hM dX3_bucket_14 (Nat.le_of_ble_eq_true rfl) (Nat.le_of_ble_eq_true rfl) (rt_ok)
theorem fl_X3_split_16 : FL wsX3_split RX3 16 3 7 := ⟨RX3, TX3, 21, rfl, (fun _ h => List.mem_cons_of_mem _ (List.mem_append_right _ h)), by decide, List.mem_of_getElem? (i := 1) rfl, rfl⟩
theorem fl_X3_split_56 : FL wsX3_split RX3 56 3 6 := ⟨RX3, TX3, 21, rfl, (fun _ h => List.mem_cons_of_mem _ (List.mem_append_right _ h)), by decide, List.mem_of_getElem? (i := 2) rfl, rfl⟩
theorem fl_X3_split_19 : FL wsX3_split RX3 19 3 8 := ⟨RX3, TX3, 21, rfl, (fun _ h => List.mem_cons_of_mem _ (List.mem_append_right _ h)), by decide, List.mem_of_getElem? (i := 3) rfl, rfl⟩
set_option maxHeartbeats 4000000 in
set_option maxRecDepth 100000 in
theorem c_X3_split (l : Launch) (w : Wd) (y sz : Nat) (F : Nat → Nat) (K : Nat → Nat → Int32) (N : Nat → Nat → Nat) (Z : Nat → Nat → Bool) (G0 : Pic) (k0 : Int32) (hd : F 6 ≤ 8) (hb0 : eb F N k0 ≤ F 6) (hb1 : eb F N k0 = F 6 → F 6 ≤ 7) : Ct l w yX3_split wsX3_split ⟨2, 0, 0, 45⟩ [.ref (y), .int (k0)] (mset y F K N Z G0) sz (rt none (mset y (spF F N k0) K (spN F N k0) Z G0) sz) := by
  refine Ct.of (cc := cX3_split) (maxL := 4) (ret := none) (L := [some (.ref (y)), some (.int (k0)), none, none]) (by decide +kernel) rfl (by simp [Value.category]) (by simp) rfl ?_
  intro p e s m args below meth c k hM
  have h8 := p2le hd
  have hp0 := p2pos (F 6)
  have he : hx k0 % 2 ^ F 6 < 2 ^ F 6 := Nat.mod_lt _ hp0
  have fin : ∀ (F1 : Nat → Nat) (N1 : Nat → Nat → Nat), F1 6 ≤ 8 → mset y F1 K (setN N1 (2 ^ F1 6) (hx k0 % 2 ^ F1 6) (eb F N k0) (eb F N k0 + 1)) Z G0 = mset y (spF F N k0) K (spN F N k0) Z G0 → V p l e ⟨2, 0, 0, 45⟩ s m args below meth c w (mset y F1 K N1 Z G0) sz 0 0 (mQ w below args s ⟨2, 0, 0, 45⟩ (rt none (mset y (spF F N k0) K (spN F N k0) Z G0) sz)) 85 [some (.ref (y)), some (.int (k0)), some (.int (nI (eb F N k0))), none] [] := by
    intro F1 N1 hd1 hh
    have h81 := p2le hd1
    have hp1 := p2pos (F1 6)
    have he1 : hx k0 % 2 ^ F1 6 < 2 ^ F1 6 := Nat.mod_lt _ hp1
    refine V.aload_n k dX3_split_85 rfl ?_
    refine V.aload_n k dX3_split_86 rfl ?_
    refine V.iload_n k dX3_split_87 rfl ?_
    refine V.cV (As := [.int (k0)]) (ci := 3) (st1 := [.int (nI (hx k0 % 2 ^ F1 6)), .ref (y)]) k dX3_split_88 (c_X3_entry l w y sz F1 K N1 Z G0 k0 hd1) gX3_split_X3_entry rfl rfl (ms_o y F1 K N1 Z G0) ⟨rfl, hd_X3_entry⟩ ⟨⟨Nat.le_of_ble_eq_true rfl, Nat.le_of_ble_eq_true rfl⟩, Nat.le_of_ble_eq_true rfl, Nat.le_of_ble_eq_true rfl⟩ rfl rfl rfl (Nat.le_of_ble_eq_true rfl) rfl ?_
    refine V.iload_n k dX3_split_91 rfl ?_
    refine V.iload_n k dX3_split_92 rfl ?_
    refine V.iconst (v := nI 1) k dX3_split_93 (by decide) ?_
    refine V.iadd (v := (nI ((eb F N k0) + 1))) k dX3_split_94 (nI_add _ _) ?_
    refine V.cV (As := [.int (nI (hx k0 % 2 ^ F1 6)), .int (nI (eb F N k0)), .int (nI ((eb F N k0) + 1))]) (ci := 3) (st1 := []) k dX3_split_95 (c_X3_set l w y sz F1 K N1 Z G0 (hx k0 % 2 ^ F1 6) (eb F N k0) (eb F N k0 + 1) hd1 (by omega) (by omega)) gX3_split_X3_set rfl rfl (ms_o y F1 K N1 Z G0) ⟨rfl, hd_X3_set⟩ ⟨⟨Nat.le_of_ble_eq_true rfl, Nat.le_of_ble_eq_true rfl⟩, Nat.le_of_ble_eq_true rfl, Nat.le_of_ble_eq_true rfl⟩ rfl rfl rfl (Nat.le_of_ble_eq_true rfl) rfl ?_
    rw [hh]
    exact V.vret k hM dX3_split_98 (Nat.le_of_ble_eq_true rfl) (Nat.le_of_ble_eq_true rfl) (rt_ok)
  refine V.aload_n k dX3_split_0 rfl ?_
  refine V.getf (v := .ref (y + 3)) k dX3_split_1 fl_X3_split_16 (ms_o y F K N Z G0) rfl ?_
  refine V.aload_n k dX3_split_4 rfl ?_
  refine V.iload_n k dX3_split_5 rfl ?_
  refine V.cV (As := [.int (k0)]) (ci := 3) (st1 := [.int (nI (hx k0 % 2 ^ F 6)), .ref (y + 3)]) k dX3_split_6 (c_X3_entry l w y sz F K N Z G0 k0 hd) gX3_split_X3_entry rfl rfl (ms_o y F K N Z G0) ⟨rfl, hd_X3_entry⟩ ⟨⟨Nat.le_of_ble_eq_true rfl, Nat.le_of_ble_eq_true rfl⟩, Nat.le_of_ble_eq_true rfl, Nat.le_of_ble_eq_true rfl⟩ rfl rfl rfl (Nat.le_of_ble_eq_true rfl) rfl ?_
  refine V.iald (v := (nI (N 0 (hx k0 % 2 ^ F 6)))) k dX3_split_9 (ms_3 y F K N Z G0) rfl (by omega) (by omega) (rfl) ?_
  refine V.stk (st' := [.int (nI (eb F N k0))]) rfl ?_
  refine V.istore_n (L' := [some (.ref (y)), some (.int (k0)), some (.int (nI (eb F N k0))), none]) k dX3_split_10 (Nat.le_of_ble_eq_true rfl) rfl ?_
  refine V.iload_n k dX3_split_11 rfl ?_
  refine V.aload_n k dX3_split_12 rfl ?_
  refine V.getf (v := .int (nI (F 6))) k dX3_split_13 fl_X3_split_56 (ms_o y F K N Z G0) rfl ?_
  refine V.n_ne (tgt := 85) k dX3_split_16 (by decide) (by omega) (by omega) (fun hq => ?_) (fun hq => ?_)
  · refine fin F N hd ?_
    unfold spN spM spF
    simp only [if_neg hq]
  · have h7 := hb1 hq
    have h87 : 2 ^ F 6 ≤ 128 := Nat.pow_le_pow_right (by omega) h7
    have lp : ∀ (n i : Nat) , i ≤ 2 ^ F 6 → 2 ^ F 6 - i < n → V p l e ⟨2, 0, 0, 45⟩ s m args below meth c w (mset y F K (dblN N (2 ^ F 6) i) Z G0) sz 0 0 (mQ w below args s ⟨2, 0, 0, 45⟩ (rt none (mset y (spF F N k0) K (spN F N k0) Z G0) sz)) 21 [some (.ref (y)), some (.int (k0)), some (.int (nI (eb F N k0))), some (.int (nI (i)))] [] := by
      intro n
      induction n with
      | zero => intro i  h1 h2 ; omega
      | succ n ih =>
        intro i  h1 h2 
        refine V.iload_n k dX3_split_21 rfl ?_
        refine V.iconst (v := nI 1) k dX3_split_22 (by decide) ?_
        refine V.aload_n k dX3_split_23 rfl ?_
        refine V.getf (v := .int (nI (F 6))) k dX3_split_24 fl_X3_split_56 (ms_o y F K (dblN N (2 ^ F 6) i) Z G0) rfl ?_
        refine V.ishl (v := (nI (2 ^ (F 6)))) k dX3_split_27 (shl1 (by omega)) ?_
        refine V.n_ge (tgt := 75) k dX3_split_28 (by decide) (by omega) (by omega) (fun hc => ?_) (fun hc => ?_)
        · have hi : i = 2 ^ F 6 := by omega
          subst hi
          refine V.aload_n k dX3_split_75 rfl ?_
          refine V.dup k dX3_split_76 rfl ?_
          refine V.getf (v := .int (nI (F 6))) k dX3_split_77 fl_X3_split_56 (ms_o y F K (dblN N (2 ^ F 6) (2 ^ F 6)) Z G0) rfl ?_
          refine V.iconst (v := nI 1) k dX3_split_80 (by decide) ?_
          refine V.iadd (v := (nI (F 6 + 1))) k dX3_split_81 (nI_add _ _) ?_
          refine V.putf (fs' := mF y (va_up F 6 (F 6 + 1))) k dX3_split_82 fl_X3_split_56 ft_X3_6 (ms_o y F K (dblN N (2 ^ F 6) (2 ^ F 6)) Z G0) (by first | rfl | decide) rfl (Nat.le_of_ble_eq_true rfl) (by simp [va_up]) ?_
          refine V.pic (msF y F K (dblN N (2 ^ F 6) (2 ^ F 6)) Z G0 (va_up F 6 (F 6 + 1))) ?_
          refine V.dropL 3 (L' := [some (.ref (y)), some (.int (k0)), some (.int (nI (eb F N k0))), none]) rfl ?_
          refine fin _ _ ?_ ?_
          · show va_up F 6 (F 6 + 1) 6 ≤ 8
            simp [va_up]; omega
          · unfold spN spM spF
            simp only [if_pos hq]
        · refine V.aload_n k dX3_split_31 rfl ?_
          refine V.getf (v := .ref (y + 3)) k dX3_split_32 fl_X3_split_16 (ms_o y F K (dblN N (2 ^ F 6) i) Z G0) rfl ?_
          refine V.iload_n k dX3_split_35 rfl ?_
          refine V.iconst (v := nI 1) k dX3_split_36 (by decide) ?_
          refine V.aload_n k dX3_split_37 rfl ?_
          refine V.getf (v := .int (nI (F 6))) k dX3_split_38 fl_X3_split_56 (ms_o y F K (dblN N (2 ^ F 6) i) Z G0) rfl ?_
          refine V.ishl (v := (nI (2 ^ (F 6)))) k dX3_split_41 (shl1 (by omega)) ?_
          refine V.iadd (v := (nI (i + (2 ^ (F 6))))) k dX3_split_42 (nI_add _ _) ?_
          refine V.aload_n k dX3_split_43 rfl ?_
          refine V.getf (v := .ref (y + 3)) k dX3_split_44 fl_X3_split_16 (ms_o y F K (dblN N (2 ^ F 6) i) Z G0) rfl ?_
          refine V.iload_n k dX3_split_47 rfl ?_
          refine V.iald (v := (nI ((dblN N (2 ^ F 6) i) 0 (i)))) k dX3_split_48 (ms_3 y F K (dblN N (2 ^ F 6) i) Z G0) rfl (by omega) (by omega) (rfl) ?_
          refine V.iast (f' := upd (fun j => nI ((dblN N (2 ^ F 6) i) 0 j)) (i + (2 ^ (F 6))) (nI ((dblN N (2 ^ F 6) i) 0 (i)))) k dX3_split_49 (ms_3 y F K (dblN N (2 ^ F 6) i) Z G0) rfl (by omega) (by omega) rfl ?_
          refine V.pic (msw_3 y F K (dblN N (2 ^ F 6) i) Z G0 (i + (2 ^ (F 6))) ((dblN N (2 ^ F 6) i) 0 (i))) ?_
          refine V.aload_n k dX3_split_50 rfl ?_
          refine V.getf (v := .ref (y + 4)) k dX3_split_51 fl_X3_split_19 (ms_o y F K (va_up (dblN N (2 ^ F 6) i) 0 (va_up ((dblN N (2 ^ F 6) i) 0) (i + (2 ^ (F 6))) ((dblN N (2 ^ F 6) i) 0 (i)))) Z G0) rfl ?_
          refine V.iload_n k dX3_split_54 rfl ?_
          refine V.iconst (v := nI 1) k dX3_split_55 (by decide) ?_
          refine V.aload_n k dX3_split_56 rfl ?_
          refine V.getf (v := .int (nI (F 6))) k dX3_split_57 fl_X3_split_56 (ms_o y F K (va_up (dblN N (2 ^ F 6) i) 0 (va_up ((dblN N (2 ^ F 6) i) 0) (i + (2 ^ (F 6))) ((dblN N (2 ^ F 6) i) 0 (i)))) Z G0) rfl ?_
          refine V.ishl (v := (nI (2 ^ (F 6)))) k dX3_split_60 (shl1 (by omega)) ?_
          refine V.iadd (v := (nI (i + (2 ^ (F 6))))) k dX3_split_61 (nI_add _ _) ?_
          refine V.aload_n k dX3_split_62 rfl ?_
          refine V.getf (v := .ref (y + 4)) k dX3_split_63 fl_X3_split_19 (ms_o y F K (va_up (dblN N (2 ^ F 6) i) 0 (va_up ((dblN N (2 ^ F 6) i) 0) (i + (2 ^ (F 6))) ((dblN N (2 ^ F 6) i) 0 (i)))) Z G0) rfl ?_
          refine V.iload_n k dX3_split_66 rfl ?_
          refine V.iald (v := (nI ((va_up (dblN N (2 ^ F 6) i) 0 (va_up ((dblN N (2 ^ F 6) i) 0) (i + (2 ^ (F 6))) ((dblN N (2 ^ F 6) i) 0 (i)))) 1 (i)))) k dX3_split_67 (ms_4 y F K (va_up (dblN N (2 ^ F 6) i) 0 (va_up ((dblN N (2 ^ F 6) i) 0) (i + (2 ^ (F 6))) ((dblN N (2 ^ F 6) i) 0 (i)))) Z G0) rfl (by omega) (by omega) (rfl) ?_
          refine V.iast (f' := upd (fun j => nI ((va_up (dblN N (2 ^ F 6) i) 0 (va_up ((dblN N (2 ^ F 6) i) 0) (i + (2 ^ (F 6))) ((dblN N (2 ^ F 6) i) 0 (i)))) 1 j)) (i + (2 ^ (F 6))) (nI ((va_up (dblN N (2 ^ F 6) i) 0 (va_up ((dblN N (2 ^ F 6) i) 0) (i + (2 ^ (F 6))) ((dblN N (2 ^ F 6) i) 0 (i)))) 1 (i)))) k dX3_split_68 (ms_4 y F K (va_up (dblN N (2 ^ F 6) i) 0 (va_up ((dblN N (2 ^ F 6) i) 0) (i + (2 ^ (F 6))) ((dblN N (2 ^ F 6) i) 0 (i)))) Z G0) rfl (by omega) (by omega) rfl ?_
          refine V.pic (msw_4 y F K (va_up (dblN N (2 ^ F 6) i) 0 (va_up ((dblN N (2 ^ F 6) i) 0) (i + (2 ^ (F 6))) ((dblN N (2 ^ F 6) i) 0 (i)))) Z G0 (i + (2 ^ (F 6))) ((va_up (dblN N (2 ^ F 6) i) 0 (va_up ((dblN N (2 ^ F 6) i) 0) (i + (2 ^ (F 6))) ((dblN N (2 ^ F 6) i) 0 (i)))) 1 (i))) ?_
          refine V.pic (by rw [dblN_s N hc]) ?_
          refine V.iinc (x := (nI (i))) (v := (nI (i + 1))) (L' := [some (.ref (y)), some (.int (k0)), some (.int (nI (eb F N k0))), some (.int (nI (i + 1)))]) k dX3_split_69 rfl (nI_inc1 _) rfl ?_
          refine V.goto (tgt := 21) k dX3_split_72 (by decide) ?_
          exact ih (i + 1) (by omega) (by omega)
    refine V.pic (by rw [← dblN_0 N (2 ^ F 6)]) ?_
    refine V.iconst (v := nI 0) k dX3_split_19 (by decide) ?_
    refine V.istore_n (L' := [some (.ref (y)), some (.int (k0)), some (.int (nI (eb F N k0))), some (.int (nI (0)))]) k dX3_split_20 (Nat.le_of_ble_eq_true rfl) rfl ?_
    exact lp (2 ^ F 6 + 1) 0 (by omega) (by omega)
theorem fl_X3_hasRoom_16 : FL wsX3_hasRoom RX3 16 3 7 := ⟨RX3, TX3, 21, rfl, (fun _ h => List.mem_cons_of_mem _ (List.mem_append_right _ h)), by decide, List.mem_of_getElem? (i := 1) rfl, rfl⟩
theorem fl_X3_hasRoom_56 : FL wsX3_hasRoom RX3 56 3 6 := ⟨RX3, TX3, 21, rfl, (fun _ h => List.mem_cons_of_mem _ (List.mem_append_right _ h)), by decide, List.mem_of_getElem? (i := 2) rfl, rfl⟩
theorem fl_X3_hasRoom_45 : FL wsX3_hasRoom RX3 45 3 2 := ⟨RX3, TX3, 21, rfl, (fun _ h => List.mem_cons_of_mem _ (List.mem_append_right _ h)), by decide, List.mem_of_getElem? (i := 3) rfl, rfl⟩
theorem fl_X3_hasRoom_41 : FL wsX3_hasRoom RX3 41 3 1 := ⟨RX3, TX3, 21, rfl, (fun _ h => List.mem_cons_of_mem _ (List.mem_append_right _ h)), by decide, List.mem_of_getElem? (i := 4) rfl, rfl⟩
set_option maxHeartbeats 4000000 in
set_option maxRecDepth 100000 in
theorem c_X3_hasRoom (l : Launch) (w : Wd) (y sz : Nat) (F : Nat → Nat) (K : Nat → Nat → Int32) (N : Nat → Nat → Nat) (Z : Nat → Nat → Bool) (G0 : Pic) (k0 : Int32) (hn : F 5 ≤ 3100) (hd : F 6 ≤ 8) (hB : 8 ≤ F 1) (hB2 : F 1 ≤ 200) (hM2 : F 2 ≤ 8) (hl : ∀ e, e < 2 ^ F 6 → N 0 e ≤ 8) : Ct l w yX3_hasRoom wsX3_hasRoom ⟨3, 0, 0, 64⟩ [.ref (y), .int (k0)] (mset y F K N Z G0) sz (rt (some (.int (bI (hasR F K N k0)))) (mset y F K N Z G0) sz) := by
  refine Ct.of (cc := cX3_hasRoom) (maxL := 6) (ret := (some .boolean)) (L := [some (.ref (y)), some (.int (k0)), none, none, none, none]) (by decide +kernel) rfl (by simp [Value.category]) (by simp) rfl ?_
  intro p e s m args below meth c k hM
  have h8 := p2le hd
  have hp0 := p2pos (F 6)
  have he : hx k0 % 2 ^ F 6 < 2 ^ F 6 := Nat.mod_lt _ hp0
  have hb0 : eb F N k0 ≤ 8 := hl _ he
  have hcf := cntF_le (N 0) (2 ^ F 6)
  generalize hT : tgB F K N k0 = T
  have fin : ∀ dp, eb F N k0 ≤ T → T ≤ 9 → dp = max (F 6) T → V p l e ⟨3, 0, 0, 64⟩ s m args below meth c w (mset y F K N Z G0) sz 0 0 (mQ w below args s ⟨3, 0, 0, 64⟩ (rt (some (.int (bI (hasR F K N k0)))) (mset y F K N Z G0) sz)) 63 [some (.ref (y)), some (.int (k0)), some (.int (mx k0)), some (.int (nI (T))), some (.int (nI (T - eb F N k0))), some (.int (nI (dp)))] [] := by
    intro dp hT0 hT9 hdp
    have hdp9 : dp ≤ 9 := by omega
    have hdr : drB dp ≤ 16 := by
      unfold drB
      split
      · omega
      · have : 2 ^ (dp - 5) ≤ 2 ^ 4 := Nat.pow_le_pow_right (by omega) (by omega)
        omega
    refine V.iload k dX3_hasRoom_63 rfl ?_
    refine V.z_eq (tgt := 99) k dX3_hasRoom_65 (by decide) (by omega) (fun hz => ?_) (fun hz => ?_)
    · refine V.iconst (v := nI 1) k dX3_hasRoom_99 (by decide) ?_
      refine V.goto (tgt := 104) k dX3_hasRoom_100 (by decide) ?_
      have ha : hasR F K N k0 = true := by unfold hasR; rw [hT]; exact decide_eq_true (Or.inl (by omega))
      rw [ha]
      exact V.zret k hM dX3_hasRoom_104 (by first | rfl | decide) (Nat.le_of_ble_eq_true rfl) (Nat.le_of_ble_eq_true rfl) (rt_ok)
    · refine V.iload k dX3_hasRoom_68 rfl ?_
      refine V.aload_n k dX3_hasRoom_70 rfl ?_
      refine V.getf (v := .int (nI (F 2))) k dX3_hasRoom_71 fl_X3_hasRoom_45 (ms_o y F K N Z G0) rfl ?_
      refine V.n_gt (tgt := 103) k dX3_hasRoom_74 (by decide) (by omega) (by omega) (fun hm => ?_) (fun hm => ?_)
      · refine V.iconst (v := nI 0) k dX3_hasRoom_103 (by decide) ?_
        have ha : hasR F K N k0 = false := by unfold hasR; rw [hT, ← hdp]; exact decide_eq_false (by omega)
        rw [ha]
        exact V.zret k hM dX3_hasRoom_104 (by first | rfl | decide) (Nat.le_of_ble_eq_true rfl) (Nat.le_of_ble_eq_true rfl) (rt_ok)
      · refine V.aload_n k dX3_hasRoom_77 rfl ?_
        refine V.cV (As := []) (ci := 3) (st1 := [.int (nI (cntF (N 0) (2 ^ F 6)))]) k dX3_hasRoom_78 (c_X3_count l w y sz F K N Z G0 hd (fun e h => Nat.le_trans (hl e h) (by omega))) gX3_hasRoom_X3_count rfl rfl (ms_o y F K N Z G0) ⟨rfl, hd_X3_count⟩ ⟨⟨Nat.le_of_ble_eq_true rfl, Nat.le_of_ble_eq_true rfl⟩, Nat.le_of_ble_eq_true rfl, Nat.le_of_ble_eq_true rfl⟩ rfl rfl rfl (Nat.le_of_ble_eq_true rfl) rfl ?_
        refine V.iload k dX3_hasRoom_81 rfl ?_
        refine V.iadd (v := (nI ((cntF (N 0) (2 ^ F 6)) + (T - eb F N k0)))) k dX3_hasRoom_83 (nI_add _ _) ?_
        refine V.iload k dX3_hasRoom_84 rfl ?_
        refine V.cS (As := [.int (nI (dp))]) (st1 := [.int (nI (drB dp)), .int (nI ((cntF (N 0) (2 ^ F 6)) + (T - eb F N k0)))]) k dX3_hasRoom_86 (c_X3_directory l w _ sz dp hdp9) gX3_hasRoom_X3_directory rfl hd_X3_directory ⟨⟨Nat.le_of_ble_eq_true rfl, Nat.le_of_ble_eq_true rfl⟩, Nat.le_of_ble_eq_true rfl, Nat.le_of_ble_eq_true rfl⟩ rfl rfl rfl (Nat.le_of_ble_eq_true rfl) rfl ?_
        refine V.iadd (v := (nI (((cntF (N 0) (2 ^ F 6)) + (T - eb F N k0)) + (drB dp)))) k dX3_hasRoom_89 (nI_add _ _) ?_
        refine V.aload_n k dX3_hasRoom_90 rfl ?_
        refine V.getf (v := .int (nI (F 1))) k dX3_hasRoom_91 fl_X3_hasRoom_41 (ms_o y F K N Z G0) rfl ?_
        refine V.iconst (v := nI 2) k dX3_hasRoom_94 (by decide) ?_
        refine V.isub (v := (nI (F 1 - 2))) k dX3_hasRoom_95 (pk_sub (by omega)) ?_
        refine V.n_gt (tgt := 103) k dX3_hasRoom_96 (by decide) (by omega) (by omega) (fun hq => ?_) (fun hq => ?_)
        · refine V.iconst (v := nI 0) k dX3_hasRoom_103 (by decide) ?_
          have ha : hasR F K N k0 = false := by unfold hasR; rw [hT, ← hdp]; exact decide_eq_false (by omega)
          rw [ha]
          exact V.zret k hM dX3_hasRoom_104 (by first | rfl | decide) (Nat.le_of_ble_eq_true rfl) (Nat.le_of_ble_eq_true rfl) (rt_ok)
        · refine V.iconst (v := nI 1) k dX3_hasRoom_99 (by decide) ?_
          refine V.goto (tgt := 104) k dX3_hasRoom_100 (by decide) ?_
          have ha : hasR F K N k0 = true := by unfold hasR; rw [hT, ← hdp]; exact decide_eq_true (Or.inr ⟨hm, by omega⟩)
          rw [ha]
          exact V.zret k hM dX3_hasRoom_104 (by first | rfl | decide) (Nat.le_of_ble_eq_true rfl) (Nat.le_of_ble_eq_true rfl) (rt_ok)
  have fin2 : eb F N k0 ≤ T → T ≤ 9 → V p l e ⟨3, 0, 0, 64⟩ s m args below meth c w (mset y F K N Z G0) sz 0 0 (mQ w below args s ⟨3, 0, 0, 64⟩ (rt (some (.int (bI (hasR F K N k0)))) (mset y F K N Z G0) sz)) 45 [some (.ref (y)), some (.int (k0)), some (.int (mx k0)), some (.int (nI (T))), some (.int (nI (T - eb F N k0))), none] [] := by
    intro hT0 hT9
    refine V.iload_n k dX3_hasRoom_45 rfl ?_
    refine V.aload_n k dX3_hasRoom_46 rfl ?_
    refine V.getf (v := .int (nI (F 6))) k dX3_hasRoom_47 fl_X3_hasRoom_56 (ms_o y F K N Z G0) rfl ?_
    refine V.n_le (tgt := 57) k dX3_hasRoom_50 (by decide) (by omega) (by omega) (fun hz => ?_) (fun hz => ?_)
    · refine V.aload_n k dX3_hasRoom_57 rfl ?_
      refine V.getf (v := .int (nI (F 6))) k dX3_hasRoom_58 fl_X3_hasRoom_56 (ms_o y F K N Z G0) rfl ?_
      refine V.istore (L' := [some (.ref (y)), some (.int (k0)), some (.int (mx k0)), some (.int (nI (T))), some (.int (nI (T - eb F N k0))), some (.int (nI (F 6)))]) k dX3_hasRoom_61 (Nat.le_of_ble_eq_true rfl) rfl ?_
      exact fin (F 6) hT0 hT9 (by omega)
    · refine V.iload_n k dX3_hasRoom_53 rfl ?_
      refine V.goto (tgt := 61) k dX3_hasRoom_54 (by decide) ?_
      refine V.istore (L' := [some (.ref (y)), some (.int (k0)), some (.int (mx k0)), some (.int (nI (T))), some (.int (nI (T - eb F N k0))), some (.int (nI (T)))]) k dX3_hasRoom_61 (Nat.le_of_ble_eq_true rfl) rfl ?_
      exact fin T hT0 hT9 (by omega)
  have lp : ∀ (n i : Nat) , i ≤ (9 - eb F N k0) → (9 - eb F N k0) - i < n → (stp (K 0) (hx k0) (F 5) (10 - i) (eb F N k0 + i) = T) → V p l e ⟨3, 0, 0, 64⟩ s m args below meth c w (mset y F K N Z G0) sz 0 0 (mQ w below args s ⟨3, 0, 0, 64⟩ (rt (some (.int (bI (hasR F K N k0)))) (mset y F K N Z G0) sz)) 19 [some (.ref (y)), some (.int (k0)), some (.int (mx k0)), some (.int (nI (eb F N k0 + i))), some (.int (nI (i))), none] [] := by
    intro n
    induction n with
    | zero => intro i  h1 h2 hk; omega
    | succ n ih =>
      intro i  h1 h2 hk
      refine V.iload_n k dX3_hasRoom_19 rfl ?_
      refine V.bipush (v := nI 9) k dX3_hasRoom_20 (by decide) ?_
      refine V.n_ge (tgt := 45) k dX3_hasRoom_22 (by decide) (by omega) (by omega) (fun hc => ?_) (fun hc => ?_)
      · have hst : T = eb F N k0 + i := by
          rw [show 10 - i = (9 - i) + 1 by omega, stp, if_neg (by omega)] at hk
          exact hk.symm
        have hsi : i = T - eb F N k0 := by omega
        have f2 := fin2 (by omega) (by omega)
        rw [← hsi] at f2
        rw [← hst]
        exact f2
      · have hcl := cnt_le (K 0) (tn (mx k0)) (eb F N k0 + i) (F 5)
        refine V.aload_n k dX3_hasRoom_25 rfl ?_
        refine V.iload_n k dX3_hasRoom_26 rfl ?_
        refine V.iload_n k dX3_hasRoom_27 rfl ?_
        refine V.cV (As := [.int (mx k0), .int (nI (eb F N k0 + i))]) (ci := 3) (st1 := [.int (nI (cnt (K 0) (hx k0) (eb F N k0 + i) (F 5)))]) k dX3_hasRoom_28 (c_X3_many l w y sz F K N Z G0 (mx k0) (eb F N k0 + i) hn (by omega)) gX3_hasRoom_X3_many rfl rfl (ms_o y F K N Z G0) ⟨rfl, hd_X3_many⟩ ⟨⟨Nat.le_of_ble_eq_true rfl, Nat.le_of_ble_eq_true rfl⟩, Nat.le_of_ble_eq_true rfl, Nat.le_of_ble_eq_true rfl⟩ rfl rfl rfl (Nat.le_of_ble_eq_true rfl) rfl ?_
        have hcl2 : cnt (K 0) (hx k0) (eb F N k0 + i) (F 5) ≤ F 5 := hcl
        refine V.bipush (v := nI 15) k dX3_hasRoom_31 (by decide) ?_
        refine V.n_lt (tgt := 45) k dX3_hasRoom_33 (by decide) (by omega) (by omega) (fun hq => ?_) (fun hq => ?_)
        · have hst : T = eb F N k0 + i := by
            rw [show 10 - i = (9 - i) + 1 by omega, stp, if_neg (by omega)] at hk
            exact hk.symm
          have hsi : i = T - eb F N k0 := by omega
          have f2 := fin2 (by omega) (by omega)
          rw [← hsi] at f2
          rw [← hst]
          exact f2
        · rw [show 10 - i = (10 - (i + 1)) + 1 by omega, stp, if_pos ⟨hc, hq⟩] at hk
          refine V.iinc (x := (nI (eb F N k0 + i))) (v := (nI (eb F N k0 + (i + 1)))) (L' := [some (.ref (y)), some (.int (k0)), some (.int (mx k0)), some (.int (nI (eb F N k0 + (i + 1)))), some (.int (nI (i))), none]) k dX3_hasRoom_36 rfl (nI_inc1 (eb F N k0 + i)) rfl ?_
          refine V.iinc (x := (nI (i))) (v := (nI (i + 1))) (L' := [some (.ref (y)), some (.int (k0)), some (.int (mx k0)), some (.int (nI (eb F N k0 + (i + 1)))), some (.int (nI (i + 1))), none]) k dX3_hasRoom_39 rfl (nI_inc1 _) rfl ?_
          refine V.goto (tgt := 19) k dX3_hasRoom_42 (by decide) ?_
          exact ih (i + 1) (by omega) (by omega) hk
  refine V.iload_n k dX3_hasRoom_0 rfl ?_
  refine V.cS (As := [.int (k0)]) (st1 := [.int (mx k0)]) k dX3_hasRoom_1 (c_X3_mixing l w _ sz k0) gX3_hasRoom_X3_mixing rfl hd_X3_mixing ⟨⟨Nat.le_of_ble_eq_true rfl, Nat.le_of_ble_eq_true rfl⟩, Nat.le_of_ble_eq_true rfl, Nat.le_of_ble_eq_true rfl⟩ rfl rfl rfl (Nat.le_of_ble_eq_true rfl) rfl ?_
  refine V.istore_n (L' := [some (.ref (y)), some (.int (k0)), some (.int (mx k0)), none, none, none]) k dX3_hasRoom_4 (Nat.le_of_ble_eq_true rfl) rfl ?_
  refine V.aload_n k dX3_hasRoom_5 rfl ?_
  refine V.getf (v := .ref (y + 3)) k dX3_hasRoom_6 fl_X3_hasRoom_16 (ms_o y F K N Z G0) rfl ?_
  refine V.aload_n k dX3_hasRoom_9 rfl ?_
  refine V.iload_n k dX3_hasRoom_10 rfl ?_
  refine V.cV (As := [.int (k0)]) (ci := 3) (st1 := [.int (nI (hx k0 % 2 ^ F 6)), .ref (y + 3)]) k dX3_hasRoom_11 (c_X3_entry l w y sz F K N Z G0 k0 hd) gX3_hasRoom_X3_entry rfl rfl (ms_o y F K N Z G0) ⟨rfl, hd_X3_entry⟩ ⟨⟨Nat.le_of_ble_eq_true rfl, Nat.le_of_ble_eq_true rfl⟩, Nat.le_of_ble_eq_true rfl, Nat.le_of_ble_eq_true rfl⟩ rfl rfl rfl (Nat.le_of_ble_eq_true rfl) rfl ?_
  refine V.iald (v := (nI (N 0 (hx k0 % 2 ^ F 6)))) k dX3_hasRoom_14 (ms_3 y F K N Z G0) rfl (by omega) (by omega) (rfl) ?_
  refine V.stk (st' := [.int (nI (eb F N k0 + 0))]) rfl ?_
  refine V.istore_n (L' := [some (.ref (y)), some (.int (k0)), some (.int (mx k0)), some (.int (nI (eb F N k0 + 0))), none, none]) k dX3_hasRoom_15 (Nat.le_of_ble_eq_true rfl) rfl ?_
  refine V.iconst (v := nI 0) k dX3_hasRoom_16 (by decide) ?_
  refine V.istore (L' := [some (.ref (y)), some (.int (k0)), some (.int (mx k0)), some (.int (nI (eb F N k0 + 0))), some (.int (nI (0))), none]) k dX3_hasRoom_17 (Nat.le_of_ble_eq_true rfl) rfl ?_
  exact lp 10 0 (by omega) (by omega) hT
