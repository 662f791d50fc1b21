/-- the splits that a key wants, one after the other -/
def itP (F : Nat → Nat) (N : Nat → Nat → Nat) (k : Int32) : Nat → (Nat → Nat) × (Nat → Nat → Nat)
  | 0 => (F, N)
  | j + 1 => (spF (itP F N k j).1 (itP F N k j).2 k, spN (itP F N k j).1 (itP F N k j).2 k)
def f17 (F : Nat → Nat) : Nat → Nat := va_up F 17 1
/-- what the splits need -/
def ItOk (F : Nat → Nat) (K : Nat → Nat → Int32) (N : Nat → Nat → Nat) (k : Int32) (n m : Nat) : Prop :=
  ∀ j, j ≤ m → (itP F N k j).1 6 ≤ 8 ∧ (itP F N k j).1 5 = n ∧ eb (itP F N k j).1 (itP F N k j).2 k ≤ (itP F N k j).1 6 ∧ (j < m → 15 ≤ cnt (K 0) (hx k) (eb (itP F N k j).1 (itP F N k j).2 k) n ∧ (eb (itP F N k j).1 (itP F N k j).2 k = (itP F N k j).1 6 → (itP F N k j).1 6 ≤ 7)) ∧ (j = m → cnt (K 0) (hx k) (eb (itP F N k j).1 (itP F N k j).2 k) n < 15)
def puM (F : Nat → Nat) (K : Nat → Nat → Int32) (N : Nat → Nat → Nat) (k : Int32) : Nat := tgB F K N k - eb F N k
/-- a new key -/
def pnF (F : Nat → Nat) (K : Nat → Nat → Int32) (N : Nat → Nat → Nat) (k : Int32) : Nat → Nat := va_up (itP (f17 F) N k (puM F K N k)).1 5 (F 5 + 1)
def pnK (F : Nat → Nat) (K : Nat → Nat → Int32) (k v : Int32) : Nat → Nat → Int32 := va_up (va_up K 0 (upd (K 0) (F 5) k)) 1 (upd (va_up K 0 (upd (K 0) (F 5) k) 1) (F 5) v)
def pnN (F : Nat → Nat) (K : Nat → Nat → Int32) (N : Nat → Nat → Nat) (k : Int32) : Nat → Nat → Nat := setN (itP (f17 F) N k (puM F K N k)).2 (2 ^ pnF F K N k 6) (hx k % 2 ^ pnF F K N k 6) (eb (pnF F K N k) (itP (f17 F) N k (puM F K N k)).2 k) (eb (pnF F K N k) (itP (f17 F) N k (puM F K N k)).2 k)
/-- a key that is there -/
def poK (F : Nat → Nat) (K : Nat → Nat → Int32) (k v : Int32) : Nat → Nat → Int32 := va_up K 1 (upd (K 1) (fp F K k) v)
def poN (F : Nat → Nat) (N : Nat → Nat → Nat) (k : Int32) : Nat → Nat → Nat := setN N (2 ^ F 6) (hx k % 2 ^ F 6) (eb F N k) (eb F N k)
theorem fl_X3_put_48 : FL wsX3_put RX3 48 3 0 := ⟨RX3, TX3, 21, rfl, (fun _ h => List.mem_cons_of_mem _ (List.mem_append_right _ h)), by decide, List.mem_of_getElem? (i := 1) rfl, rfl⟩
theorem fl_X3_put_87 : FL wsX3_put RX3 87 3 18 := ⟨RX3, TX3, 21, rfl, (fun _ h => List.mem_cons_of_mem _ (List.mem_append_right _ h)), by decide, List.mem_of_getElem? (i := 2) rfl, rfl⟩
theorem fl_X3_put_99 : FL wsX3_put RX3 99 3 17 := ⟨RX3, TX3, 21, rfl, (fun _ h => List.mem_cons_of_mem _ (List.mem_append_right _ h)), by decide, List.mem_of_getElem? (i := 5) rfl, rfl⟩
theorem fl_X3_put_16 : FL wsX3_put RX3 16 3 7 := ⟨RX3, TX3, 21, rfl, (fun _ h => List.mem_cons_of_mem _ (List.mem_append_right _ h)), by decide, List.mem_of_getElem? (i := 6) rfl, rfl⟩
theorem fl_X3_put_63 : FL wsX3_put RX3 63 3 5 := ⟨RX3, TX3, 21, rfl, (fun _ h => List.mem_cons_of_mem _ (List.mem_append_right _ h)), by decide, List.mem_of_getElem? (i := 7) rfl, rfl⟩
theorem fl_X3_put_7 : FL wsX3_put RX3 7 3 3 := ⟨RX3, TX3, 21, rfl, (fun _ h => List.mem_cons_of_mem _ (List.mem_append_right _ h)), by decide, List.mem_of_getElem? (i := 8) rfl, rfl⟩
theorem fl_X3_put_13 : FL wsX3_put RX3 13 3 4 := ⟨RX3, TX3, 21, rfl, (fun _ h => List.mem_cons_of_mem _ (List.mem_append_right _ h)), by decide, List.mem_of_getElem? (i := 9) rfl, rfl⟩
set_option maxHeartbeats 4000000 in
set_option maxRecDepth 100000 in
theorem c_X3_put_dn (l : Launch) (w : Wd) (y sz : Nat) (F : Nat → Nat) (K : Nat → Nat → Int32) (N : Nat → Nat → Nat) (Z : Nat → Nat → Bool) (G0 : Pic) (k0 v0 : Int32) (hn : F 5 ≤ 3099) (hF0 : F 0 = 0) (hdn : F 18 ≤ 1) (hD : F 18 = 1) : Ct l w yX3_put wsX3_put ⟨4, 0, 0, 89⟩ [.ref (y), .int (k0), .int (v0)] (mset y F K N Z G0) sz (rt (some (.int (-2000000003))) (mset y F K N Z G0) sz) := by
  refine Ct.of (cc := cX3_put) (maxL := 4) (ret := (some .int)) (L := [some (.ref (y)), some (.int (k0)), some (.int (v0)), none]) (by decide +kernel) rfl (by simp [Value.category]) (by simp) rfl ?_
  intro p e s m args below meth c k hM
  refine V.aload_n k dX3_put_0 rfl ?_
  refine V.iconst (v := nI 0) k dX3_put_1 (by decide) ?_
  refine V.putf (fs' := mF y (va_up F 0 (0))) k dX3_put_2 fl_X3_put_48 ft_X3_0 (ms_o y F K N Z G0) (by first | rfl | decide) rfl (Nat.le_of_ble_eq_true rfl) (by simp [va_up]) ?_
  refine V.pic (msF y F K N Z G0 (va_up F 0 (0))) ?_
  refine V.pic (by rw [va_up_id hF0]) ?_
  refine V.aload_n k dX3_put_5 rfl ?_
  refine V.getf (v := .int (nI (F 18))) k dX3_put_6 fl_X3_put_87 (ms_o y F K N Z G0) rfl ?_
  refine V.z_eq (tgt := 15) k dX3_put_9 (by decide) (by omega) (fun hd => ?_) (fun hd => ?_)
  · exact absurd hd (by omega)
  · refine V.ldc (v := (-2000000003)) k dX3_put_12 (List.mem_of_getElem? (i := 3) rfl) ?_
    exact V.iret k hM dX3_put_14 (Nat.le_of_ble_eq_true rfl) (Nat.le_of_ble_eq_true rfl) (rt_ok)
set_option maxHeartbeats 4000000 in
set_option maxRecDepth 100000 in
theorem c_X3_put_nr (l : Launch) (w : Wd) (y sz : Nat) (F : Nat → Nat) (K : Nat → Nat → Int32) (N : Nat → Nat → Nat) (Z : Nat → Nat → Bool) (G0 : Pic) (k0 v0 : Int32) (hn : F 5 ≤ 3099) (hF0 : F 0 = 0) (hdn : F 18 ≤ 1) (hD : F 18 = 0) (hA : ¬ fp F K k0 < F 5) (hR : hasR F K N k0 = false) (hd6 : F 6 ≤ 8) (hB : 8 ≤ F 1) (hB2 : F 1 ≤ 200) (hM2 : F 2 ≤ 8) (hl : ∀ e, e < 2 ^ F 6 → N 0 e ≤ 8) : Ct l w yX3_put wsX3_put ⟨4, 0, 0, 89⟩ [.ref (y), .int (k0), .int (v0)] (mset y F K N Z G0) sz (rt (some (.int (-2000000001))) (mset y F K N Z G0) sz) := by
  refine Ct.of (cc := cX3_put) (maxL := 4) (ret := (some .int)) (L := [some (.ref (y)), some (.int (k0)), some (.int (v0)), none]) (by decide +kernel) rfl (by simp [Value.category]) (by simp) rfl ?_
  intro p e s m args below meth c k hM
  refine V.aload_n k dX3_put_0 rfl ?_
  refine V.iconst (v := nI 0) k dX3_put_1 (by decide) ?_
  refine V.putf (fs' := mF y (va_up F 0 (0))) k dX3_put_2 fl_X3_put_48 ft_X3_0 (ms_o y F K N Z G0) (by first | rfl | decide) rfl (Nat.le_of_ble_eq_true rfl) (by simp [va_up]) ?_
  refine V.pic (msF y F K N Z G0 (va_up F 0 (0))) ?_
  refine V.pic (by rw [va_up_id hF0]) ?_
  refine V.aload_n k dX3_put_5 rfl ?_
  refine V.getf (v := .int (nI (F 18))) k dX3_put_6 fl_X3_put_87 (ms_o y F K N Z G0) rfl ?_
  refine V.z_eq (tgt := 15) k dX3_put_9 (by decide) (by omega) (fun hd => ?_) (fun hd => ?_)
  · refine V.aload_n k dX3_put_15 rfl ?_
    refine V.iload_n k dX3_put_16 rfl ?_
    refine V.cV (As := [.int (k0)]) (ci := 3) (st1 := [.int (if fnd (K 0) k0 (F 5) 0 < F 5 then nI (fnd (K 0) k0 (F 5) 0) else (-1))]) k dX3_put_17 (c_X3_find l w y sz F K N Z G0 k0 (by omega)) gX3_put_X3_find rfl rfl (ms_o y F K N Z G0) ⟨rfl, hd_X3_find⟩ ⟨⟨Nat.le_of_ble_eq_true rfl, Nat.le_of_ble_eq_true rfl⟩, Nat.le_of_ble_eq_true rfl, Nat.le_of_ble_eq_true rfl⟩ rfl rfl rfl (Nat.le_of_ble_eq_true rfl) rfl ?_
    simp only [if_neg (show ¬ fnd (K 0) k0 (F 5) 0 < F 5 from hA)]
    refine V.istore_n (L' := [some (.ref (y)), some (.int (k0)), some (.int (v0)), some (.int ((-1)))]) k dX3_put_20 (Nat.le_of_ble_eq_true rfl) rfl ?_
    refine V.iload_n k dX3_put_21 rfl ?_
    refine V.if_ge (tgt := 36) k dX3_put_22 (by decide) (fun h9 => ?_) (fun h9 => ?_)
    · exact absurd h9 (by decide)
    · refine V.aload_n k dX3_put_25 rfl ?_
      refine V.iload_n k dX3_put_26 rfl ?_
      refine V.cV (As := [.int (k0)]) (ci := 3) (st1 := [.int (bI (hasR F K N k0))]) k dX3_put_27 (c_X3_hasRoom l w y sz F K N Z G0 k0 (by omega) hd6 hB hB2 hM2 hl) gX3_put_X3_hasRoom rfl rfl (ms_o y F K N Z G0) ⟨rfl, hd_X3_hasRoom⟩ ⟨⟨Nat.le_of_ble_eq_true rfl, Nat.le_of_ble_eq_true rfl⟩, Nat.le_of_ble_eq_true rfl, Nat.le_of_ble_eq_true rfl⟩ rfl rfl rfl (Nat.le_of_ble_eq_true rfl) rfl ?_
      refine V.b_ne (tgt := 36) k dX3_put_30 (by decide) (fun hh => ?_) (fun hh => ?_)
      · exact absurd (hR.symm.trans hh) (by decide)
      · refine V.ldc (v := (-2000000001)) k dX3_put_33 (List.mem_of_getElem? (i := 4) rfl) ?_
        exact V.iret k hM dX3_put_35 (Nat.le_of_ble_eq_true rfl) (Nat.le_of_ble_eq_true rfl) (rt_ok)
  · exact absurd hd (by omega)
set_option maxHeartbeats 4000000 in
set_option maxRecDepth 100000 in
theorem c_X3_put_old (l : Launch) (w : Wd) (y sz : Nat) (F : Nat → Nat) (K : Nat → Nat → Int32) (N : Nat → Nat → Nat) (Z : Nat → Nat → Bool) (G0 : Pic) (k0 v0 : Int32) (hn : F 5 ≤ 3099) (hF0 : F 0 = 0) (hdn : F 18 ≤ 1) (hD : F 18 = 0) (hA : fp F K k0 < F 5) (hd6 : F 6 ≤ 8) (heb : eb F N k0 ≤ F 6) : Ct l w yX3_put wsX3_put ⟨4, 0, 0, 89⟩ [.ref (y), .int (k0), .int (v0)] (mset y F K N Z G0) sz (rt (some (.int (nI 0))) (mset y (f17 F) (poK F K k0 v0) (poN F N k0) Z G0) sz) := by
  refine Ct.of (cc := cX3_put) (maxL := 4) (ret := (some .int)) (L := [some (.ref (y)), some (.int (k0)), some (.int (v0)), none]) (by decide +kernel) rfl (by simp [Value.category]) (by simp) rfl ?_
  intro p e s m args below meth c k hM
  have fin : ∀ (F2 : Nat → Nat) (K2 : Nat → Nat → Int32) (N2 : Nat → Nat → Nat) (a : Nat), a < 3100 → F2 6 ≤ 8 → eb F2 N2 k0 ≤ F2 6 → (mset y (f17 F) (poK F K k0 v0) (poN F N k0) Z G0) = mset y F2 (va_up K2 1 (upd (K2 1) a v0)) (setN N2 (2 ^ F2 6) (hx k0 % 2 ^ F2 6) (eb F2 N2 k0) (eb F2 N2 k0)) Z G0 → V p l e ⟨4, 0, 0, 89⟩ s m args below meth c w (mset y F2 K2 N2 Z G0) sz 0 0 (mQ w below args s ⟨4, 0, 0, 89⟩ (rt (some (.int (nI 0))) (mset y (f17 F) (poK F K k0 v0) (poN F N k0) Z G0) sz)) 102 [some (.ref (y)), some (.int (k0)), some (.int (v0)), some (.int (nI (a)))] [] := by
    intro F2 K2 N2 a ha hd1 hb1 hh
    have h81 := p2le hd1
    have hp1 := p2pos (F2 6)
    have he1 : hx k0 % 2 ^ F2 6 < 2 ^ F2 6 := Nat.mod_lt _ hp1
    rw [hh]
    refine V.aload_n k dX3_put_102 rfl ?_
    refine V.getf (v := .ref (y + 2)) k dX3_put_103 fl_X3_put_13 (ms_o y F2 K2 N2 Z G0) rfl ?_
    refine V.iload_n k dX3_put_106 rfl ?_
    refine V.iload_n k dX3_put_107 rfl ?_
    refine V.iast (f' := upd (K2 1) (a) ((v0))) k dX3_put_108 (ms_2 y F2 K2 N2 Z G0) rfl (by omega) (by omega) rfl ?_
    refine V.pic (msw_2 y F2 K2 N2 Z G0 (upd (K2 1) (a) ((v0)))) ?_
    refine V.aload_n k dX3_put_109 rfl ?_
    refine V.aload_n k dX3_put_110 rfl ?_
    refine V.iload_n k dX3_put_111 rfl ?_
    refine V.cV (As := [.int (k0)]) (ci := 3) (st1 := [.int (nI (hx k0 % 2 ^ F2 6)), .ref (y)]) k dX3_put_112 (c_X3_entry l w y sz F2 (va_up K2 1 (upd (K2 1) (a) ((v0)))) N2 Z G0 k0 hd1) gX3_put_X3_entry rfl rfl (ms_o y F2 (va_up K2 1 (upd (K2 1) (a) ((v0)))) N2 Z G0) ⟨rfl, hd_X3_entry⟩ ⟨⟨Nat.le_of_ble_eq_true rfl, Nat.le_of_ble_eq_true rfl⟩, Nat.le_of_ble_eq_true rfl, Nat.le_of_ble_eq_true rfl⟩ rfl rfl rfl (Nat.le_of_ble_eq_true rfl) rfl ?_
    refine V.aload_n k dX3_put_115 rfl ?_
    refine V.getf (v := .ref (y + 3)) k dX3_put_116 fl_X3_put_16 (ms_o y F2 (va_up K2 1 (upd (K2 1) (a) ((v0)))) N2 Z G0) rfl ?_
    refine V.aload_n k dX3_put_119 rfl ?_
    refine V.iload_n k dX3_put_120 rfl ?_
    refine V.cV (As := [.int (k0)]) (ci := 3) (st1 := [.int (nI (hx k0 % 2 ^ F2 6)), .ref (y + 3), .int (nI (hx k0 % 2 ^ F2 6)), .ref (y)]) k dX3_put_121 (c_X3_entry l w y sz F2 (va_up K2 1 (upd (K2 1) (a) ((v0)))) N2 Z G0 k0 hd1) gX3_put_X3_entry rfl rfl (ms_o y F2 (va_up K2 1 (upd (K2 1) (a) ((v0)))) N2 Z G0) ⟨rfl, hd_X3_entry⟩ ⟨⟨Nat.le_of_ble_eq_true rfl, Nat.le_of_ble_eq_true rfl⟩, Nat.le_of_ble_eq_true rfl, Nat.le_of_ble_eq_true rfl⟩ rfl rfl rfl (Nat.le_of_ble_eq_true rfl) rfl ?_
    refine V.iald (v := (nI (N2 0 (hx k0 % 2 ^ F2 6)))) k dX3_put_124 (ms_3 y F2 (va_up K2 1 (upd (K2 1) (a) ((v0)))) N2 Z G0) rfl (by omega) (by omega) (rfl) ?_
    refine V.aload_n k dX3_put_125 rfl ?_
    refine V.getf (v := .ref (y + 3)) k dX3_put_126 fl_X3_put_16 (ms_o y F2 (va_up K2 1 (upd (K2 1) (a) ((v0)))) N2 Z G0) rfl ?_
    refine V.aload_n k dX3_put_129 rfl ?_
    refine V.iload_n k dX3_put_130 rfl ?_
    refine V.cV (As := [.int (k0)]) (ci := 3) (st1 := [.int (nI (hx k0 % 2 ^ F2 6)), .ref (y + 3), .int (nI (N2 0 (hx k0 % 2 ^ F2 6))), .int (nI (hx k0 % 2 ^ F2 6)), .ref (y)]) k dX3_put_131 (c_X3_entry l w y sz F2 (va_up K2 1 (upd (K2 1) (a) ((v0)))) N2 Z G0 k0 hd1) gX3_put_X3_entry rfl rfl (ms_o y F2 (va_up K2 1 (upd (K2 1) (a) ((v0)))) N2 Z G0) ⟨rfl, hd_X3_entry⟩ ⟨⟨Nat.le_of_ble_eq_true rfl, Nat.le_of_ble_eq_true rfl⟩, Nat.le_of_ble_eq_true rfl, Nat.le_of_ble_eq_true rfl⟩ rfl rfl rfl (Nat.le_of_ble_eq_true rfl) rfl ?_
    refine V.iald (v := (nI (N2 0 (hx k0 % 2 ^ F2 6)))) k dX3_put_134 (ms_3 y F2 (va_up K2 1 (upd (K2 1) (a) ((v0)))) N2 Z G0) rfl (by omega) (by omega) (rfl) ?_
    refine V.cV (As := [.int (nI (hx k0 % 2 ^ F2 6)), .int (nI (N2 0 (hx k0 % 2 ^ F2 6))), .int (nI (N2 0 (hx k0 % 2 ^ F2 6)))]) (ci := 3) (st1 := []) k dX3_put_135 (c_X3_set l w y sz F2 (va_up K2 1 (upd (K2 1) (a) ((v0)))) N2 Z G0 (hx k0 % 2 ^ F2 6) (eb F2 N2 k0) (eb F2 N2 k0) hd1 (by omega) (by omega)) gX3_put_X3_set rfl rfl (ms_o y F2 (va_up K2 1 (upd (K2 1) (a) ((v0)))) N2 Z G0) ⟨rfl, hd_X3_set⟩ ⟨⟨Nat.le_of_ble_eq_true rfl, Nat.le_of_ble_eq_true rfl⟩, Nat.le_of_ble_eq_true rfl, Nat.le_of_ble_eq_true rfl⟩ rfl rfl rfl (Nat.le_of_ble_eq_true rfl) rfl ?_
    refine V.iconst (v := nI 0) k dX3_put_138 (by decide) ?_
    exact V.iret k hM dX3_put_139 (Nat.le_of_ble_eq_true rfl) (Nat.le_of_ble_eq_true rfl) (rt_ok)
  refine V.aload_n k dX3_put_0 rfl ?_
  refine V.iconst (v := nI 0) k dX3_put_1 (by decide) ?_
  refine V.putf (fs' := mF y (va_up F 0 (0))) k dX3_put_2 fl_X3_put_48 ft_X3_0 (ms_o y F K N Z G0) (by first | rfl | decide) rfl (Nat.le_of_ble_eq_true rfl) (by simp [va_up]) ?_
  refine V.pic (msF y F K N Z G0 (va_up F 0 (0))) ?_
  refine V.pic (by rw [va_up_id hF0]) ?_
  refine V.aload_n k dX3_put_5 rfl ?_
  refine V.getf (v := .int (nI (F 18))) k dX3_put_6 fl_X3_put_87 (ms_o y F K N Z G0) rfl ?_
  refine V.z_eq (tgt := 15) k dX3_put_9 (by decide) (by omega) (fun hd => ?_) (fun hd => ?_)
  · refine V.aload_n k dX3_put_15 rfl ?_
    refine V.iload_n k dX3_put_16 rfl ?_
    refine V.cV (As := [.int (k0)]) (ci := 3) (st1 := [.int (if fnd (K 0) k0 (F 5) 0 < F 5 then nI (fnd (K 0) k0 (F 5) 0) else (-1))]) k dX3_put_17 (c_X3_find l w y sz F K N Z G0 k0 (by omega)) gX3_put_X3_find rfl rfl (ms_o y F K N Z G0) ⟨rfl, hd_X3_find⟩ ⟨⟨Nat.le_of_ble_eq_true rfl, Nat.le_of_ble_eq_true rfl⟩, Nat.le_of_ble_eq_true rfl, Nat.le_of_ble_eq_true rfl⟩ rfl rfl rfl (Nat.le_of_ble_eq_true rfl) rfl ?_
    have hA2 : fnd (K 0) k0 (F 5) 0 < F 5 := hA
    simp only [if_pos hA2]
    refine V.istore_n (L' := [some (.ref (y)), some (.int (k0)), some (.int (v0)), some (.int (nI (fnd (K 0) k0 (F 5) 0)))]) k dX3_put_20 (Nat.le_of_ble_eq_true rfl) rfl ?_
    refine V.iload_n k dX3_put_21 rfl ?_
    refine V.z_ge (tgt := 36) k dX3_put_22 (by decide) (by omega) (fun h9 => ?_) (fun h9 => ?_)
    · refine V.aload_n k dX3_put_36 rfl ?_
      refine V.iconst (v := nI 1) k dX3_put_37 (by decide) ?_
      refine V.putf (fs' := mF y (va_up F 17 (1))) k dX3_put_38 fl_X3_put_99 ft_X3_17 (ms_o y F K N Z G0) (by first | rfl | decide) rfl (Nat.le_of_ble_eq_true rfl) (by simp [va_up]) ?_
      refine V.pic (msF y F K N Z G0 (va_up F 17 (1))) ?_
      refine V.iload_n k dX3_put_41 rfl ?_
      refine V.z_ge (tgt := 76) k dX3_put_42 (by decide) (by omega) (fun h8 => ?_) (fun h8 => ?_)
      · refine V.iload_n k dX3_put_76 rfl ?_
        refine V.z_ge (tgt := 102) k dX3_put_77 (by decide) (by omega) (fun h7 => ?_) (fun h7 => ?_)
        · exact fin (va_up F 17 (1)) K N (fnd (K 0) k0 (F 5) 0) (by have : fnd (K 0) k0 (F 5) 0 < F 5 := hA; omega) hd6 heb rfl
        · exact h7.elim
      · exact h8.elim
    · exact h9.elim
  · exact absurd hd (by omega)
set_option maxHeartbeats 4000000 in
set_option maxRecDepth 100000 in
theorem c_X3_put_new (l : Launch) (w : Wd) (y sz : Nat) (F : Nat → Nat) (K : Nat → Nat → Int32) (N : Nat → Nat → Nat) (Z : Nat → Nat → Bool) (G0 : Pic) (k0 v0 : Int32) (hn : F 5 ≤ 3099) (hF0 : F 0 = 0) (hdn : F 18 ≤ 1) (hD : F 18 = 0) (hA : ¬ fp F K k0 < F 5) (hR : hasR F K N k0 = true) (hd6 : F 6 ≤ 8) (hB : 8 ≤ F 1) (hB2 : F 1 ≤ 200) (hM2 : F 2 ≤ 8) (hl : ∀ e, e < 2 ^ F 6 → N 0 e ≤ 8) (hit : ItOk (f17 F) K N k0 (F 5) (puM F K N k0)) : Ct l w yX3_put wsX3_put ⟨4, 0, 0, 89⟩ [.ref (y), .int (k0), .int (v0)] (mset y F K N Z G0) sz (rt (some (.int (nI 0))) (mset y (pnF F K N k0) (pnK F K k0 v0) (pnN F K N k0) Z G0) sz) := by
  refine Ct.of (cc := cX3_put) (maxL := 4) (ret := (some .int)) (L := [some (.ref (y)), some (.int (k0)), some (.int (v0)), none]) (by decide +kernel) rfl (by simp [Value.category]) (by simp) rfl ?_
  intro p e s m args below meth c k hM
  have fin : ∀ (F2 : Nat → Nat) (K2 : Nat → Nat → Int32) (N2 : Nat → Nat → Nat) (a : Nat), a < 3100 → F2 6 ≤ 8 → eb F2 N2 k0 ≤ F2 6 → (mset y (pnF F K N k0) (pnK F K k0 v0) (pnN F K N k0) Z G0) = mset y F2 (va_up K2 1 (upd (K2 1) a v0)) (setN N2 (2 ^ F2 6) (hx k0 % 2 ^ F2 6) (eb F2 N2 k0) (eb F2 N2 k0)) Z G0 → V p l e ⟨4, 0, 0, 89⟩ s m args below meth c w (mset y F2 K2 N2 Z G0) sz 0 0 (mQ w below args s ⟨4, 0, 0, 89⟩ (rt (some (.int (nI 0))) (mset y (pnF F K N k0) (pnK F K k0 v0) (pnN F K N k0) Z G0) sz)) 102 [some (.ref (y)), some (.int (k0)), some (.int (v0)), some (.int (nI (a)))] [] := by
    intro F2 K2 N2 a ha hd1 hb1 hh
    have h81 := p2le hd1
    have hp1 := p2pos (F2 6)
    have he1 : hx k0 % 2 ^ F2 6 < 2 ^ F2 6 := Nat.mod_lt _ hp1
    rw [hh]
    refine V.aload_n k dX3_put_102 rfl ?_
    refine V.getf (v := .ref (y + 2)) k dX3_put_103 fl_X3_put_13 (ms_o y F2 K2 N2 Z G0) rfl ?_
    refine V.iload_n k dX3_put_106 rfl ?_
    refine V.iload_n k dX3_put_107 rfl ?_
    refine V.iast (f' := upd (K2 1) (a) ((v0))) k dX3_put_108 (ms_2 y F2 K2 N2 Z G0) rfl (by omega) (by omega) rfl ?_
    refine V.pic (msw_2 y F2 K2 N2 Z G0 (upd (K2 1) (a) ((v0)))) ?_
    refine V.aload_n k dX3_put_109 rfl ?_
    refine V.aload_n k dX3_put_110 rfl ?_
    refine V.iload_n k dX3_put_111 rfl ?_
    refine V.cV (As := [.int (k0)]) (ci := 3) (st1 := [.int (nI (hx k0 % 2 ^ F2 6)), .ref (y)]) k dX3_put_112 (c_X3_entry l w y sz F2 (va_up K2 1 (upd (K2 1) (a) ((v0)))) N2 Z G0 k0 hd1) gX3_put_X3_entry rfl rfl (ms_o y F2 (va_up K2 1 (upd (K2 1) (a) ((v0)))) N2 Z G0) ⟨rfl, hd_X3_entry⟩ ⟨⟨Nat.le_of_ble_eq_true rfl, Nat.le_of_ble_eq_true rfl⟩, Nat.le_of_ble_eq_true rfl, Nat.le_of_ble_eq_true rfl⟩ rfl rfl rfl (Nat.le_of_ble_eq_true rfl) rfl ?_
    refine V.aload_n k dX3_put_115 rfl ?_
    refine V.getf (v := .ref (y + 3)) k dX3_put_116 fl_X3_put_16 (ms_o y F2 (va_up K2 1 (upd (K2 1) (a) ((v0)))) N2 Z G0) rfl ?_
    refine V.aload_n k dX3_put_119 rfl ?_
    refine V.iload_n k dX3_put_120 rfl ?_
    refine V.cV (As := [.int (k0)]) (ci := 3) (st1 := [.int (nI (hx k0 % 2 ^ F2 6)), .ref (y + 3), .int (nI (hx k0 % 2 ^ F2 6)), .ref (y)]) k dX3_put_121 (c_X3_entry l w y sz F2 (va_up K2 1 (upd (K2 1) (a) ((v0)))) N2 Z G0 k0 hd1) gX3_put_X3_entry rfl rfl (ms_o y F2 (va_up K2 1 (upd (K2 1) (a) ((v0)))) N2 Z G0) ⟨rfl, hd_X3_entry⟩ ⟨⟨Nat.le_of_ble_eq_true rfl, Nat.le_of_ble_eq_true rfl⟩, Nat.le_of_ble_eq_true rfl, Nat.le_of_ble_eq_true rfl⟩ rfl rfl rfl (Nat.le_of_ble_eq_true rfl) rfl ?_
    refine V.iald (v := (nI (N2 0 (hx k0 % 2 ^ F2 6)))) k dX3_put_124 (ms_3 y F2 (va_up K2 1 (upd (K2 1) (a) ((v0)))) N2 Z G0) rfl (by omega) (by omega) (rfl) ?_
    refine V.aload_n k dX3_put_125 rfl ?_
    refine V.getf (v := .ref (y + 3)) k dX3_put_126 fl_X3_put_16 (ms_o y F2 (va_up K2 1 (upd (K2 1) (a) ((v0)))) N2 Z G0) rfl ?_
    refine V.aload_n k dX3_put_129 rfl ?_
    refine V.iload_n k dX3_put_130 rfl ?_
    refine V.cV (As := [.int (k0)]) (ci := 3) (st1 := [.int (nI (hx k0 % 2 ^ F2 6)), .ref (y + 3), .int (nI (N2 0 (hx k0 % 2 ^ F2 6))), .int (nI (hx k0 % 2 ^ F2 6)), .ref (y)]) k dX3_put_131 (c_X3_entry l w y sz F2 (va_up K2 1 (upd (K2 1) (a) ((v0)))) N2 Z G0 k0 hd1) gX3_put_X3_entry rfl rfl (ms_o y F2 (va_up K2 1 (upd (K2 1) (a) ((v0)))) N2 Z G0) ⟨rfl, hd_X3_entry⟩ ⟨⟨Nat.le_of_ble_eq_true rfl, Nat.le_of_ble_eq_true rfl⟩, Nat.le_of_ble_eq_true rfl, Nat.le_of_ble_eq_true rfl⟩ rfl rfl rfl (Nat.le_of_ble_eq_true rfl) rfl ?_
    refine V.iald (v := (nI (N2 0 (hx k0 % 2 ^ F2 6)))) k dX3_put_134 (ms_3 y F2 (va_up K2 1 (upd (K2 1) (a) ((v0)))) N2 Z G0) rfl (by omega) (by omega) (rfl) ?_
    refine V.cV (As := [.int (nI (hx k0 % 2 ^ F2 6)), .int (nI (N2 0 (hx k0 % 2 ^ F2 6))), .int (nI (N2 0 (hx k0 % 2 ^ F2 6)))]) (ci := 3) (st1 := []) k dX3_put_135 (c_X3_set l w y sz F2 (va_up K2 1 (upd (K2 1) (a) ((v0)))) N2 Z G0 (hx k0 % 2 ^ F2 6) (eb F2 N2 k0) (eb F2 N2 k0) hd1 (by omega) (by omega)) gX3_put_X3_set rfl rfl (ms_o y F2 (va_up K2 1 (upd (K2 1) (a) ((v0)))) N2 Z G0) ⟨rfl, hd_X3_set⟩ ⟨⟨Nat.le_of_ble_eq_true rfl, Nat.le_of_ble_eq_true rfl⟩, Nat.le_of_ble_eq_true rfl, Nat.le_of_ble_eq_true rfl⟩ rfl rfl rfl (Nat.le_of_ble_eq_true rfl) rfl ?_
    refine V.iconst (v := nI 0) k dX3_put_138 (by decide) ?_
    exact V.iret k hM dX3_put_139 (Nat.le_of_ble_eq_true rfl) (Nat.le_of_ble_eq_true rfl) (rt_ok)
  have lp : ∀ (n i : Nat) , i ≤ puM F K N k0 → puM F K N k0 - i < n → V p l e ⟨4, 0, 0, 89⟩ s m args below meth c w (mset y (itP (f17 F) N k0 i).1 K (itP (f17 F) N k0 i).2 Z G0) sz 0 0 (mQ w below args s ⟨4, 0, 0, 89⟩ (rt (some (.int (nI 0))) (mset y (pnF F K N k0) (pnK F K k0 v0) (pnN F K N k0) Z G0) sz)) 41 [some (.ref (y)), some (.int (k0)), some (.int (v0)), some (.int ((-1)))] [] := by
    intro n
    induction n with
    | zero => intro i  h1 h2 ; omega
    | succ n ih =>
      intro i  h1 h2 
      have hI := hit i h1
      obtain ⟨hi6, hi5, hie, hi15, hiq⟩ := hI
      have h81 := p2le hi6
      have hp1 := p2pos ((itP (f17 F) N k0 i).1 6)
      have he1 : hx k0 % 2 ^ (itP (f17 F) N k0 i).1 6 < 2 ^ (itP (f17 F) N k0 i).1 6 := Nat.mod_lt _ hp1
      refine V.iload_n k dX3_put_41 rfl ?_
      refine V.if_ge (tgt := 76) k dX3_put_42 (by decide) (fun h9 => ?_) (fun h9 => ?_)
      · exact absurd h9 (by decide)
      · refine V.aload_n k dX3_put_45 rfl ?_
        refine V.iload_n k dX3_put_46 rfl ?_
        refine V.cS (As := [.int (k0)]) (st1 := [.int (mx k0), .ref (y)]) k dX3_put_47 (c_X3_mixing l w _ sz k0) gX3_put_X3_mixing rfl hd_X3_mixing ⟨⟨Nat.le_of_ble_eq_true rfl, Nat.le_of_ble_eq_true rfl⟩, Nat.le_of_ble_eq_true rfl, Nat.le_of_ble_eq_true rfl⟩ rfl rfl rfl (Nat.le_of_ble_eq_true rfl) rfl ?_
        refine V.aload_n k dX3_put_50 rfl ?_
        refine V.getf (v := .ref (y + 3)) k dX3_put_51 fl_X3_put_16 (ms_o y (itP (f17 F) N k0 i).1 K (itP (f17 F) N k0 i).2 Z G0) rfl ?_
        refine V.aload_n k dX3_put_54 rfl ?_
        refine V.iload_n k dX3_put_55 rfl ?_
        refine V.cV (As := [.int (k0)]) (ci := 3) (st1 := [.int (nI (hx k0 % 2 ^ (itP (f17 F) N k0 i).1 6)), .ref (y + 3), .int (mx k0), .ref (y)]) k dX3_put_56 (c_X3_entry l w y sz (itP (f17 F) N k0 i).1 K (itP (f17 F) N k0 i).2 Z G0 k0 hi6) gX3_put_X3_entry rfl rfl (ms_o y (itP (f17 F) N k0 i).1 K (itP (f17 F) N k0 i).2 Z G0) ⟨rfl, hd_X3_entry⟩ ⟨⟨Nat.le_of_ble_eq_true rfl, Nat.le_of_ble_eq_true rfl⟩, Nat.le_of_ble_eq_true rfl, Nat.le_of_ble_eq_true rfl⟩ rfl rfl rfl (Nat.le_of_ble_eq_true rfl) rfl ?_
        refine V.iald (v := (nI ((itP (f17 F) N k0 i).2 0 (hx k0 % 2 ^ (itP (f17 F) N k0 i).1 6)))) k dX3_put_59 (ms_3 y (itP (f17 F) N k0 i).1 K (itP (f17 F) N k0 i).2 Z G0) rfl (by omega) (by omega) (rfl) ?_
        refine V.cV (As := [.int (mx k0), .int (nI ((itP (f17 F) N k0 i).2 0 (hx k0 % 2 ^ (itP (f17 F) N k0 i).1 6)))]) (ci := 3) (st1 := [.int (nI (cnt (K 0) (hx k0) (eb (itP (f17 F) N k0 i).1 (itP (f17 F) N k0 i).2 k0) ((itP (f17 F) N k0 i).1 5)))]) k dX3_put_60 (c_X3_many l w y sz (itP (f17 F) N k0 i).1 K (itP (f17 F) N k0 i).2 Z G0 (mx k0) (eb (itP (f17 F) N k0 i).1 (itP (f17 F) N k0 i).2 k0) (by rw [hi5]; omega) (by omega)) gX3_put_X3_many rfl rfl (ms_o y (itP (f17 F) N k0 i).1 K (itP (f17 F) N k0 i).2 Z G0) ⟨rfl, hd_X3_many⟩ ⟨⟨Nat.le_of_ble_eq_true rfl, Nat.le_of_ble_eq_true rfl⟩, Nat.le_of_ble_eq_true rfl, Nat.le_of_ble_eq_true rfl⟩ rfl rfl rfl (Nat.le_of_ble_eq_true rfl) rfl ?_
        have hcl := cnt_le (K 0) (hx k0) (eb (itP (f17 F) N k0 i).1 (itP (f17 F) N k0 i).2 k0) ((itP (f17 F) N k0 i).1 5)
        rw [hi5] at hcl ⊢
        refine V.bipush (v := nI 15) k dX3_put_63 (by decide) ?_
        refine V.n_lt (tgt := 76) k dX3_put_65 (by decide) (by omega) (by omega) (fun hc => ?_) (fun hc => ?_)
        · have him : i = puM F K N k0 := by
            by_cases hh : i < puM F K N k0
            · exact absurd (hi15 hh).1 (by omega)
            · omega
          refine V.iload_n k dX3_put_76 rfl ?_
          refine V.if_ge (tgt := 102) k dX3_put_77 (by decide) (fun h8 => ?_) (fun h8 => ?_)
          · exact absurd h8 (by decide)
          · refine V.aload_n k dX3_put_80 rfl ?_
            refine V.getf (v := .int (nI ((itP (f17 F) N k0 i).1 5))) k dX3_put_81 fl_X3_put_63 (ms_o y (itP (f17 F) N k0 i).1 K (itP (f17 F) N k0 i).2 Z G0) rfl ?_
            refine V.stk (st' := [.int (nI (F 5))]) (by rw [hi5]) ?_
            refine V.istore_n (L' := [some (.ref (y)), some (.int (k0)), some (.int (v0)), some (.int (nI (F 5)))]) k dX3_put_84 (Nat.le_of_ble_eq_true rfl) rfl ?_
            refine V.aload_n k dX3_put_85 rfl ?_
            refine V.getf (v := .ref (y + 1)) k dX3_put_86 fl_X3_put_7 (ms_o y (itP (f17 F) N k0 i).1 K (itP (f17 F) N k0 i).2 Z G0) rfl ?_
            refine V.iload_n k dX3_put_89 rfl ?_
            refine V.iload_n k dX3_put_90 rfl ?_
            refine V.iast (f' := upd (K 0) (F 5) ((k0))) k dX3_put_91 (ms_1 y (itP (f17 F) N k0 i).1 K (itP (f17 F) N k0 i).2 Z G0) rfl (by omega) (by omega) rfl ?_
            refine V.pic (msw_1 y (itP (f17 F) N k0 i).1 K (itP (f17 F) N k0 i).2 Z G0 (upd (K 0) (F 5) ((k0)))) ?_
            refine V.aload_n k dX3_put_92 rfl ?_
            refine V.dup k dX3_put_93 rfl ?_
            refine V.getf (v := .int (nI ((itP (f17 F) N k0 i).1 5))) k dX3_put_94 fl_X3_put_63 (ms_o y (itP (f17 F) N k0 i).1 (va_up K 0 (upd (K 0) (F 5) ((k0)))) (itP (f17 F) N k0 i).2 Z G0) rfl ?_
            refine V.stk (st' := [.int (nI (F 5)), .ref y]) (by rw [hi5]) ?_
            refine V.iconst (v := nI 1) k dX3_put_97 (by decide) ?_
            refine V.iadd (v := (nI (F 5 + 1))) k dX3_put_98 (nI_add _ _) ?_
            refine V.putf (fs' := mF y (va_up (itP (f17 F) N k0 i).1 5 (F 5 + 1))) k dX3_put_99 fl_X3_put_63 ft_X3_5 (ms_o y (itP (f17 F) N k0 i).1 (va_up K 0 (upd (K 0) (F 5) ((k0)))) (itP (f17 F) N k0 i).2 Z G0) (by first | rfl | decide) rfl (Nat.le_of_ble_eq_true rfl) (by simp [va_up]) ?_
            refine V.pic (msF y (itP (f17 F) N k0 i).1 (va_up K 0 (upd (K 0) (F 5) ((k0)))) (itP (f17 F) N k0 i).2 Z G0 (va_up (itP (f17 F) N k0 i).1 5 (F 5 + 1))) ?_
            exact fin (va_up (itP (f17 F) N k0 i).1 5 (F 5 + 1)) (va_up K 0 (upd (K 0) (F 5) ((k0)))) (itP (f17 F) N k0 i).2 (F 5) (by omega) hi6 hie (by rw [him]; rfl)
        · have him : i < puM F K N k0 := by
            by_cases hh : i < puM F K N k0
            · exact hh
            · exact absurd (hiq (by omega)) (by omega)
          refine V.aload_n k dX3_put_68 rfl ?_
          refine V.iload_n k dX3_put_69 rfl ?_
          refine V.cV (As := [.int (k0)]) (ci := 3) (st1 := []) k dX3_put_70 (c_X3_split l w y sz (itP (f17 F) N k0 i).1 K (itP (f17 F) N k0 i).2 Z G0 k0 hi6 hie (hi15 him).2) gX3_put_X3_split rfl rfl (ms_o y (itP (f17 F) N k0 i).1 K (itP (f17 F) N k0 i).2 Z G0) ⟨rfl, hd_X3_split⟩ ⟨⟨Nat.le_of_ble_eq_true rfl, Nat.le_of_ble_eq_true rfl⟩, Nat.le_of_ble_eq_true rfl, Nat.le_of_ble_eq_true rfl⟩ rfl rfl rfl (Nat.le_of_ble_eq_true rfl) rfl ?_
          refine V.goto (tgt := 41) k dX3_put_73 (by decide) ?_
          exact ih (i + 1) (by omega) (by omega)
  refine V.aload_n k dX3_put_0 rfl ?_
  refine V.iconst (v := nI 0) k dX3_put_1 (by decide) ?_
  refine V.putf (fs' := mF y (va_up F 0 (0))) k dX3_put_2 fl_X3_put_48 ft_X3_0 (ms_o y F K N Z G0) (by first | rfl | decide) rfl (Nat.le_of_ble_eq_true rfl) (by simp [va_up]) ?_
  refine V.pic (msF y F K N Z G0 (va_up F 0 (0))) ?_
  refine V.pic (by rw [va_up_id hF0]) ?_
  refine V.aload_n k dX3_put_5 rfl ?_
  refine V.getf (v := .int (nI (F 18))) k dX3_put_6 fl_X3_put_87 (ms_o y F K N Z G0) rfl ?_
  refine V.z_eq (tgt := 15) k dX3_put_9 (by decide) (by omega) (fun hd => ?_) (fun hd => ?_)
  · refine V.aload_n k dX3_put_15 rfl ?_
    refine V.iload_n k dX3_put_16 rfl ?_
    refine V.cV (As := [.int (k0)]) (ci := 3) (st1 := [.int (if fnd (K 0) k0 (F 5) 0 < F 5 then nI (fnd (K 0) k0 (F 5) 0) else (-1))]) k dX3_put_17 (c_X3_find l w y sz F K N Z G0 k0 (by omega)) gX3_put_X3_find rfl rfl (ms_o y F K N Z G0) ⟨rfl, hd_X3_find⟩ ⟨⟨Nat.le_of_ble_eq_true rfl, Nat.le_of_ble_eq_true rfl⟩, Nat.le_of_ble_eq_true rfl, Nat.le_of_ble_eq_true rfl⟩ rfl rfl rfl (Nat.le_of_ble_eq_true rfl) rfl ?_
    simp only [if_neg (show ¬ fnd (K 0) k0 (F 5) 0 < F 5 from hA)]
    refine V.istore_n (L' := [some (.ref (y)), some (.int (k0)), some (.int (v0)), some (.int ((-1)))]) k dX3_put_20 (Nat.le_of_ble_eq_true rfl) rfl ?_
    refine V.iload_n k dX3_put_21 rfl ?_
    refine V.if_ge (tgt := 36) k dX3_put_22 (by decide) (fun h9 => ?_) (fun h9 => ?_)
    · exact absurd h9 (by decide)
    · refine V.aload_n k dX3_put_25 rfl ?_
      refine V.iload_n k dX3_put_26 rfl ?_
      refine V.cV (As := [.int (k0)]) (ci := 3) (st1 := [.int (bI (hasR F K N k0))]) k dX3_put_27 (c_X3_hasRoom l w y sz F K N Z G0 k0 (by omega) hd6 hB hB2 hM2 hl) gX3_put_X3_hasRoom rfl rfl (ms_o y F K N Z G0) ⟨rfl, hd_X3_hasRoom⟩ ⟨⟨Nat.le_of_ble_eq_true rfl, Nat.le_of_ble_eq_true rfl⟩, Nat.le_of_ble_eq_true rfl, Nat.le_of_ble_eq_true rfl⟩ rfl rfl rfl (Nat.le_of_ble_eq_true rfl) rfl ?_
      refine V.b_ne (tgt := 36) k dX3_put_30 (by decide) (fun hh => ?_) (fun hh => ?_)
      · refine V.aload_n k dX3_put_36 rfl ?_
        refine V.iconst (v := nI 1) k dX3_put_37 (by decide) ?_
        refine V.putf (fs' := mF y (va_up F 17 (1))) k dX3_put_38 fl_X3_put_99 ft_X3_17 (ms_o y F K N Z G0) (by first | rfl | decide) rfl (Nat.le_of_ble_eq_true rfl) (by simp [va_up]) ?_
        refine V.pic (msF y F K N Z G0 (va_up F 17 (1))) ?_
        exact lp (puM F K N k0 + 1) 0 (by omega) (by omega)
      · exact absurd (hR.symm.trans hh) (by decide)
  · exact absurd hd (by omega)
