theorem nI_xor (a b : Nat) : nI a ^^^ nI b = nI (a ^^^ b) := by
  apply Int32.toBitVec_inj.mp
  show BitVec.ofNat 32 a ^^^ BitVec.ofNat 32 b = BitVec.ofNat 32 (a ^^^ b)
  apply BitVec.eq_of_getLsbD_eq
  intro i hi
  simp [BitVec.getLsbD_ofNat, hi]
theorem xor_lt {a b n : Nat} (ha : a < 2 ^ n) (hb : b < 2 ^ n) : a ^^^ b < 2 ^ n := Nat.xor_lt_two_pow ha hb
def f5 (F : Nat → Nat) (n : Nat) : Nat → Nat := va_up (va_up F 17 1) 5 n
def rmK (F : Nat → Nat) (K : Nat → Nat → Int32) (k : Int32) : Nat → Nat → Int32 := va_up (va_up K 0 (upd (K 0) (fp F K k) (K 0 (F 5 - 1)))) 1 (upd (va_up K 0 (upd (K 0) (fp F K k) (K 0 (F 5 - 1))) 1) (fp F K k) (va_up K 0 (upd (K 0) (fp F K k) (K 0 (F 5 - 1))) 1 (F 5 - 1)))
def mgC (K : Nat → Nat → Int32) (n d e : Nat) (N : Nat → Nat → Nat) : Prop := 0 < N 0 e ∧ cnt (K 0) e (N 0 e) n = 0 ∧ N 0 ((e ^^^ 2 ^ (N 0 e - 1)) % 2 ^ d) = N 0 e
noncomputable def mgN (K : Nat → Nat → Int32) (n d e : Nat) : Nat → (Nat → Nat → Nat) → (Nat → Nat → Nat)
  | 0, N => N
  | f + 1, N => if 0 < N 0 e ∧ cnt (K 0) e (N 0 e) n = 0 ∧ N 0 ((e ^^^ 2 ^ (N 0 e - 1)) % 2 ^ d) = N 0 e then mgN K n d e f (setN N (2 ^ d) e (N 0 e - 1) (N 0 e - 1)) else N
theorem mgN_stop {K : Nat → Nat → Int32} {n d e f : Nat} {N : Nat → Nat → Nat} (h : ¬ (0 < N 0 e ∧ cnt (K 0) e (N 0 e) n = 0 ∧ N 0 ((e ^^^ 2 ^ (N 0 e - 1)) % 2 ^ d) = N 0 e)) : mgN K n d e f N = N := by
  cases f with
  | zero => rfl
  | succ f => unfold mgN; rw [if_neg h]
noncomputable def rmN (F : Nat → Nat) (K : Nat → Nat → Int32) (N : Nat → Nat → Nat) (k : Int32) : Nat → Nat → Nat := mgN (rmK F K k) (F 5 - 1) (F 6) (hx k % 2 ^ F 6) 9 (setN N (2 ^ F 6) (hx k % 2 ^ F 6) (N 0 (hx k % 2 ^ F 6)) (N 0 (hx k % 2 ^ F 6)))
def anyD (D : Nat → Nat) (v : Nat) : Nat → Bool
  | 0 => false
  | n + 1 => anyD D v n || decide (D n = v)
def hvD (D : Nat → Nat) : Nat → Nat
  | 0 => 0
  | d + 1 => if anyD D (d + 1) (2 ^ (d + 1)) = true then d + 1 else hvD D d
theorem hvD_le (D : Nat → Nat) : ∀ d, hvD D d ≤ d
  | 0 => Nat.le_refl _
  | d + 1 => by
    have := hvD_le D d
    unfold hvD
    split <;> omega
noncomputable def rmF (F : Nat → Nat) (K : Nat → Nat → Int32) (N : Nat → Nat → Nat) (k : Int32) : Nat → Nat := va_up (f5 F (F 5 - 1)) 6 (hvD (rmN F K N k 0) (F 6))
theorem setN_le {N : Nat → Nat → Nat} {E r b nl : Nat} (h : ∀ j, N 0 j ≤ 8 ∨ E ≤ j) (hn : nl ≤ 8) : ∀ j, setN N E r b nl 0 j ≤ 8 ∨ E ≤ j := by
  intro j
  unfold setN
  by_cases hj : j < E ∧ j % 2 ^ b = r % 2 ^ b
  · left; simp [hj, hn]
  · rw [if_neg hj]; exact h j
theorem setN_at (N : Nat → Nat → Nat) {E r b nl : Nat} (h : r < E) : setN N E r b nl 0 r = nl := by
  unfold setN
  simp [h]
theorem fl_X3_remove_48 : FL wsX3_remove RX3 48 3 0 := ⟨RX3, TX3, 21, rfl, (fun _ h => List.mem_cons_of_mem _ (List.mem_append_right _ h)), by decide, List.mem_of_getElem? (i := 1) rfl, rfl⟩
theorem fl_X3_remove_87 : FL wsX3_remove RX3 87 3 18 := ⟨RX3, TX3, 21, rfl, (fun _ h => List.mem_cons_of_mem _ (List.mem_append_right _ h)), by decide, List.mem_of_getElem? (i := 2) rfl, rfl⟩
theorem fl_X3_remove_99 : FL wsX3_remove RX3 99 3 17 := ⟨RX3, TX3, 21, rfl, (fun _ h => List.mem_cons_of_mem _ (List.mem_append_right _ h)), by decide, List.mem_of_getElem? (i := 5) rfl, rfl⟩
theorem fl_X3_remove_63 : FL wsX3_remove RX3 63 3 5 := ⟨RX3, TX3, 21, rfl, (fun _ h => List.mem_cons_of_mem _ (List.mem_append_right _ h)), by decide, List.mem_of_getElem? (i := 6) rfl, rfl⟩
theorem fl_X3_remove_7 : FL wsX3_remove RX3 7 3 3 := ⟨RX3, TX3, 21, rfl, (fun _ h => List.mem_cons_of_mem _ (List.mem_append_right _ h)), by decide, List.mem_of_getElem? (i := 7) rfl, rfl⟩
theorem fl_X3_remove_13 : FL wsX3_remove RX3 13 3 4 := ⟨RX3, TX3, 21, rfl, (fun _ h => List.mem_cons_of_mem _ (List.mem_append_right _ h)), by decide, List.mem_of_getElem? (i := 8) rfl, rfl⟩
theorem fl_X3_remove_16 : FL wsX3_remove RX3 16 3 7 := ⟨RX3, TX3, 21, rfl, (fun _ h => List.mem_cons_of_mem _ (List.mem_append_right _ h)), by decide, List.mem_of_getElem? (i := 9) rfl, rfl⟩
theorem fl_X3_remove_56 : FL wsX3_remove RX3 56 3 6 := ⟨RX3, TX3, 21, rfl, (fun _ h => List.mem_cons_of_mem _ (List.mem_append_right _ h)), by decide, List.mem_of_getElem? (i := 10) rfl, rfl⟩
set_option maxHeartbeats 4000000 in
set_option maxRecDepth 100000 in
theorem c_X3_remove_dn (l : Launch) (w : Wd) (y sz : Nat) (F : Nat → Nat) (K : Nat → Nat → Int32) (N : Nat → Nat → Nat) (Z : Nat → Nat → Bool) (G0 : Pic) (k0 : Int32) (hn : F 5 ≤ 3099) (hF0 : F 0 = 0) (hdn : F 18 ≤ 1) (hD : F 18 = 1) : Ct l w yX3_remove wsX3_remove ⟨2, 0, 0, 45⟩ [.ref (y), .int (k0)] (mset y F K N Z G0) sz (rt (some (.int (-2000000003))) (mset y F K N Z G0) sz) := by
  refine Ct.of (cc := cX3_remove) (maxL := 6) (ret := (some .int)) (L := [some (.ref (y)), some (.int (k0)), none, none, none, none]) (by decide +kernel) rfl (by simp [Value.category]) (by simp) rfl ?_
  intro p e s m args below meth c k hM
  refine V.aload_n k dX3_remove_0 rfl ?_
  refine V.iconst (v := nI 0) k dX3_remove_1 (by decide) ?_
  refine V.putf (fs' := mF y (va_up F 0 (0))) k dX3_remove_2 fl_X3_remove_48 ft_X3_0 (ms_o y F K N Z G0) (by first | rfl | decide) rfl (Nat.le_of_ble_eq_true rfl) (by simp [va_up]) ?_
  refine V.pic (msF y F K N Z G0 (va_up F 0 (0))) ?_
  refine V.pic (by rw [va_up_id hF0]) ?_
  refine V.aload_n k dX3_remove_5 rfl ?_
  refine V.getf (v := .int (nI (F 18))) k dX3_remove_6 fl_X3_remove_87 (ms_o y F K N Z G0) rfl ?_
  refine V.z_eq (tgt := 15) k dX3_remove_9 (by decide) (by omega) (fun hd => ?_) (fun hd => ?_)
  · exact absurd hd (by omega)
  · refine V.ldc (v := (-2000000003)) k dX3_remove_12 (List.mem_of_getElem? (i := 3) rfl) ?_
    exact V.iret k hM dX3_remove_14 (Nat.le_of_ble_eq_true rfl) (Nat.le_of_ble_eq_true rfl) (rt_ok)
set_option maxHeartbeats 4000000 in
set_option maxRecDepth 100000 in
theorem c_X3_remove_nk (l : Launch) (w : Wd) (y sz : Nat) (F : Nat → Nat) (K : Nat → Nat → Int32) (N : Nat → Nat → Nat) (Z : Nat → Nat → Bool) (G0 : Pic) (k0 : Int32) (hn : F 5 ≤ 3099) (hF0 : F 0 = 0) (hdn : F 18 ≤ 1) (hD : F 18 = 0) (hA : ¬ fp F K k0 < F 5) : Ct l w yX3_remove wsX3_remove ⟨2, 0, 0, 45⟩ [.ref (y), .int (k0)] (mset y F K N Z G0) sz (rt (some (.int (-2000000002))) (mset y F K N Z G0) sz) := by
  refine Ct.of (cc := cX3_remove) (maxL := 6) (ret := (some .int)) (L := [some (.ref (y)), some (.int (k0)), none, none, none, none]) (by decide +kernel) rfl (by simp [Value.category]) (by simp) rfl ?_
  intro p e s m args below meth c k hM
  refine V.aload_n k dX3_remove_0 rfl ?_
  refine V.iconst (v := nI 0) k dX3_remove_1 (by decide) ?_
  refine V.putf (fs' := mF y (va_up F 0 (0))) k dX3_remove_2 fl_X3_remove_48 ft_X3_0 (ms_o y F K N Z G0) (by first | rfl | decide) rfl (Nat.le_of_ble_eq_true rfl) (by simp [va_up]) ?_
  refine V.pic (msF y F K N Z G0 (va_up F 0 (0))) ?_
  refine V.pic (by rw [va_up_id hF0]) ?_
  refine V.aload_n k dX3_remove_5 rfl ?_
  refine V.getf (v := .int (nI (F 18))) k dX3_remove_6 fl_X3_remove_87 (ms_o y F K N Z G0) rfl ?_
  refine V.z_eq (tgt := 15) k dX3_remove_9 (by decide) (by omega) (fun hd => ?_) (fun hd => ?_)
  · refine V.aload_n k dX3_remove_15 rfl ?_
    refine V.iload_n k dX3_remove_16 rfl ?_
    refine V.cV (As := [.int (k0)]) (ci := 3) (st1 := [.int (if fnd (K 0) k0 (F 5) 0 < F 5 then nI (fnd (K 0) k0 (F 5) 0) else (-1))]) k dX3_remove_17 (c_X3_find l w y sz F K N Z G0 k0 (by omega)) gX3_remove_X3_find rfl rfl (ms_o y F K N Z G0) ⟨rfl, hd_X3_find⟩ ⟨⟨Nat.le_of_ble_eq_true rfl, Nat.le_of_ble_eq_true rfl⟩, Nat.le_of_ble_eq_true rfl, Nat.le_of_ble_eq_true rfl⟩ rfl rfl rfl (Nat.le_of_ble_eq_true rfl) rfl ?_
    have hA2 : ¬ fnd (K 0) k0 (F 5) 0 < F 5 := hA
    simp only [if_neg hA2]
    refine V.istore_n (L' := [some (.ref (y)), some (.int (k0)), some (.int ((-1))), none, none, none]) k dX3_remove_20 (Nat.le_of_ble_eq_true rfl) rfl ?_
    refine V.iload_n k dX3_remove_21 rfl ?_
    refine V.if_ge (tgt := 28) k dX3_remove_22 (by decide) (fun h9 => ?_) (fun h9 => ?_)
    · exact absurd h9 (by decide)
    · refine V.ldc (v := (-2000000002)) k dX3_remove_25 (List.mem_of_getElem? (i := 4) rfl) ?_
      exact V.iret k hM dX3_remove_27 (Nat.le_of_ble_eq_true rfl) (Nat.le_of_ble_eq_true rfl) (rt_ok)
  · exact absurd hd (by omega)
set_option maxHeartbeats 4000000 in
set_option maxRecDepth 100000 in
theorem c_X3_remove_ok (l : Launch) (w : Wd) (y sz : Nat) (F : Nat → Nat) (K : Nat → Nat → Int32) (N : Nat → Nat → Nat) (Z : Nat → Nat → Bool) (G0 : Pic) (k0 : Int32) (hn : F 5 ≤ 3099) (hF0 : F 0 = 0) (hdn : F 18 ≤ 1) (hD : F 18 = 0) (hA : fp F K k0 < F 5) (hd6 : F 6 ≤ 8) (hl : ∀ e, e < 2 ^ F 6 → N 0 e ≤ 8) (hNb : ∀ j, rmN F K N k0 0 j ≤ 8 ∨ 2 ^ F 6 ≤ j) : Ct l w yX3_remove wsX3_remove ⟨2, 0, 0, 45⟩ [.ref (y), .int (k0)] (mset y F K N Z G0) sz (rt (some (.int (nI 0))) (mset y (rmF F K N k0) (rmK F K k0) (rmN F K N k0) Z G0) sz) := by
  refine Ct.of (cc := cX3_remove) (maxL := 6) (ret := (some .int)) (L := [some (.ref (y)), some (.int (k0)), none, none, none, none]) (by decide +kernel) rfl (by simp [Value.category]) (by simp) rfl ?_
  intro p e s m args below meth c k hM
  have h8 := p2le hd6
  have hp0 := p2pos (F 6)
  have he : hx k0 % 2 ^ F 6 < 2 ^ F 6 := Nat.mod_lt _ hp0
  have hA2 : fnd (K 0) k0 (F 5) 0 < F 5 := hA
  generalize hE : hx k0 % 2 ^ F 6 = E at he
  generalize hKK : rmK F K k0 = KK
  rw [show (∀ j, rmN F K N k0 0 j ≤ 8 ∨ 2 ^ F 6 ≤ j) = (∀ j, (fun M : Nat → Nat → Nat => M 0 j) (rmN F K N k0) ≤ 8 ∨ 2 ^ F 6 ≤ j) from rfl] at hNb
  generalize hNN : rmN F K N k0 = NN at hNb
  have hNb : ∀ j, NN 0 j ≤ 8 ∨ 2 ^ F 6 ≤ j := hNb
  have hFF : rmF F K N k0 = va_up (f5 F (F 5 - 1)) 6 (hvD (NN 0) (F 6)) := by unfold rmF; rw [hNN]
  rw [hFF]
  have hv : ∀ (d : Nat) (fl : Nat), d ≤ F 6 → (fl = 0 ∧ hvD (NN 0) d = hvD (NN 0) (F 6)) ∨ (fl = 1 ∧ d = hvD (NN 0) (F 6)) → ∀ z5 : Option Value, V p l e ⟨2, 0, 0, 45⟩ s m args below meth c w (mset y (va_up (f5 F (F 5 - 1)) 6 d) KK NN Z G0) sz 0 0 (mQ w below args s ⟨2, 0, 0, 45⟩ (rt (some (.int (nI 0))) (mset y (va_up (f5 F (F 5 - 1)) 6 (hvD (NN 0) (F 6))) KK NN Z G0) sz)) 179 [some (.ref (y)), some (.int (k0)), some (.int (nI (fnd (K 0) k0 (F 5) 0))), some (.int (nI (E))), some (.int (nI (fl))), z5] [] := by
    intro d
    induction d with
    | zero =>
      intro fl hd hh z5
      refine V.dropL 5 (L' := [some (.ref (y)), some (.int (k0)), some (.int (nI (fnd (K 0) k0 (F 5) 0))), some (.int (nI (E))), some (.int (nI (fl))), none]) rfl ?_
      have h0 : hvD (NN 0) (F 6) = 0 := by
        rcases hh with ⟨-, h⟩ | ⟨-, h⟩
        · exact h.symm
        · exact h.symm
      rw [h0]
      refine V.aload_n k dX3_remove_179 rfl ?_
      refine V.getf (v := .int (nI (0))) k dX3_remove_180 fl_X3_remove_56 (ms_o y (va_up (f5 F (F 5 - 1)) 6 0) KK NN Z G0) rfl ?_
      refine V.z_le (tgt := 262) k dX3_remove_183 (by decide) (by omega) (fun h9 => ?_) (fun h9 => ?_)
      · refine V.iconst (v := nI 0) k dX3_remove_262 (by decide) ?_
        exact V.iret k hM dX3_remove_263 (Nat.le_of_ble_eq_true rfl) (Nat.le_of_ble_eq_true rfl) (rt_ok)
      · exact absurd h9 (by omega)
    | succ d ihd =>
      intro fl hd hh z5
      have hfl : fl ≤ 1 := by omega
      have hd8 : 2 ^ (d + 1) ≤ 256 := p2le (by omega)
      have hdp := p2pos (d + 1)
      refine V.dropL 5 (L' := [some (.ref (y)), some (.int (k0)), some (.int (nI (fnd (K 0) k0 (F 5) 0))), some (.int (nI (E))), some (.int (nI (fl))), none]) rfl ?_
      refine V.aload_n k dX3_remove_179 rfl ?_
      refine V.getf (v := .int (nI (d + 1))) k dX3_remove_180 fl_X3_remove_56 (ms_o y (va_up (f5 F (F 5 - 1)) 6 (d + 1)) KK NN Z G0) rfl ?_
      refine V.z_le (tgt := 262) k dX3_remove_183 (by decide) (by omega) (fun h9 => ?_) (fun h9 => ?_)
      · exact absurd h9 (by omega)
      · refine V.iload k dX3_remove_186 rfl ?_
        refine V.z_ne (tgt := 262) k dX3_remove_188 (by decide) (by omega) (fun hf => ?_) (fun hf => ?_)
        · have hq : d + 1 = hvD (NN 0) (F 6) := by
            rcases hh with ⟨h, -⟩ | ⟨-, h⟩
            · omega
            · exact h
          rw [← hq]
          refine V.iconst (v := nI 0) k dX3_remove_262 (by decide) ?_
          exact V.iret k hM dX3_remove_263 (Nat.le_of_ble_eq_true rfl) (Nat.le_of_ble_eq_true rfl) (rt_ok)
        · have hq : hvD (NN 0) (d + 1) = hvD (NN 0) (F 6) := by
            rcases hh with ⟨-, h⟩ | ⟨h, -⟩
            · exact h
            · omega
          subst hf
          have lp : ∀ (n i : Nat) , i ≤ 2 ^ (d + 1) → 2 ^ (d + 1) - i < n → V p l e ⟨2, 0, 0, 45⟩ s m args below meth c w (mset y (va_up (f5 F (F 5 - 1)) 6 (d + 1)) KK NN Z G0) sz 0 0 (mQ w below args s ⟨2, 0, 0, 45⟩ (rt (some (.int (nI 0))) (mset y (va_up (f5 F (F 5 - 1)) 6 (hvD (NN 0) (F 6))) KK NN Z G0) sz)) 194 [some (.ref (y)), some (.int (k0)), some (.int (nI (fnd (K 0) k0 (F 5) 0))), some (.int (nI (E))), some (.int (bI (anyD (NN 0) (d + 1) i))), some (.int (nI (i)))] [] := by
            intro n
            induction n with
            | zero => intro i  h1 h2 ; omega
            | succ n ih =>
              intro i  h1 h2 
              refine V.iload k dX3_remove_194 rfl ?_
              refine V.iconst (v := nI 1) k dX3_remove_196 (by decide) ?_
              refine V.aload_n k dX3_remove_197 rfl ?_
              refine V.getf (v := .int (nI (d + 1))) k dX3_remove_198 fl_X3_remove_56 (ms_o y (va_up (f5 F (F 5 - 1)) 6 (d + 1)) KK NN Z G0) rfl ?_
              refine V.ishl (v := (nI (2 ^ (d + 1)))) k dX3_remove_201 (shl1 (by omega)) ?_
              refine V.n_ge (tgt := 237) k dX3_remove_202 (by decide) (by omega) (by omega) (fun hc => ?_) (fun hc => ?_)
              · have hi : i = 2 ^ (d + 1) := by omega
                subst hi
                refine V.aload_n k dX3_remove_237 rfl ?_
                refine V.iload k dX3_remove_238 rfl ?_
                refine V.b_eq (tgt := 250) k dX3_remove_240 (by decide) (fun hb => ?_) (fun hb => ?_)
                · refine V.aload_n k dX3_remove_250 rfl ?_
                  refine V.getf (v := .int (nI (d + 1))) k dX3_remove_251 fl_X3_remove_56 (ms_o y (va_up (f5 F (F 5 - 1)) 6 (d + 1)) KK NN Z G0) rfl ?_
                  refine V.iconst (v := nI 1) k dX3_remove_254 (by decide) ?_
                  refine V.isub (v := (nI ((d + 1) - 1))) k dX3_remove_255 (pk_sub (by omega)) ?_
                  refine V.putf (fs' := mF y (va_up (va_up (f5 F (F 5 - 1)) 6 (d + 1)) 6 ((d + 1) - 1))) k dX3_remove_256 fl_X3_remove_56 ft_X3_6 (ms_o y (va_up (f5 F (F 5 - 1)) 6 (d + 1)) KK NN Z G0) (by first | rfl | decide) rfl (Nat.le_of_ble_eq_true rfl) (by simp [va_up]) ?_
                  refine V.pic (msF y (va_up (f5 F (F 5 - 1)) 6 (d + 1)) KK NN Z G0 (va_up (va_up (f5 F (F 5 - 1)) 6 (d + 1)) 6 ((d + 1) - 1))) ?_
                  refine V.pic (show _ = (mset y (va_up (f5 F (F 5 - 1)) 6 d) KK NN Z G0) by congr 1; funext j; by_cases hj : j = 6 <;> simp [va_up, hj]) ?_
                  refine V.goto (tgt := 179) k dX3_remove_259 (by decide) ?_
                  have hn2 : hvD (NN 0) (d + 1) = hvD (NN 0) d := by rw [hvD, if_neg (by simp [hb])]
                  rw [hb]
                  exact ihd 0 (by omega) (Or.inl ⟨rfl, by rw [← hn2]; exact hq⟩) _
                · refine V.aload_n k dX3_remove_243 rfl ?_
                  refine V.getf (v := .int (nI (d + 1))) k dX3_remove_244 fl_X3_remove_56 (ms_o y (va_up (f5 F (F 5 - 1)) 6 (d + 1)) KK NN Z G0) rfl ?_
                  refine V.goto (tgt := 256) k dX3_remove_247 (by decide) ?_
                  refine V.putf (fs' := mF y (va_up (va_up (f5 F (F 5 - 1)) 6 (d + 1)) 6 (d + 1))) k dX3_remove_256 fl_X3_remove_56 ft_X3_6 (ms_o y (va_up (f5 F (F 5 - 1)) 6 (d + 1)) KK NN Z G0) (by first | rfl | decide) rfl (Nat.le_of_ble_eq_true rfl) (by simp [va_up]) ?_
                  refine V.pic (msF y (va_up (f5 F (F 5 - 1)) 6 (d + 1)) KK NN Z G0 (va_up (va_up (f5 F (F 5 - 1)) 6 (d + 1)) 6 (d + 1))) ?_
                  refine V.pic (show _ = (mset y (va_up (f5 F (F 5 - 1)) 6 (d + 1)) KK NN Z G0) by congr 1; funext j; by_cases hj : j = 6 <;> simp [va_up, hj]) ?_
                  refine V.goto (tgt := 179) k dX3_remove_259 (by decide) ?_
                  have hn2 : d + 1 = hvD (NN 0) (F 6) := by rw [← hq, hvD, if_pos hb]
                  rw [hb, ← hn2]
                  refine V.loc (L' := [some (.ref (y)), some (.int (k0)), some (.int (nI (fnd (K 0) k0 (F 5) 0))), some (.int (nI (E))), some (.int (nI (1))), some (.int (nI (2 ^ (d + 1))))]) rfl ?_
                  refine V.aload_n k dX3_remove_179 rfl ?_
                  refine V.getf (v := .int (nI (d + 1))) k dX3_remove_180 fl_X3_remove_56 (ms_o y (va_up (f5 F (F 5 - 1)) 6 (d + 1)) KK NN Z G0) rfl ?_
                  refine V.z_le (tgt := 262) k dX3_remove_183 (by decide) (by omega) (fun h7 => ?_) (fun h7 => ?_)
                  · exact absurd h7 (by omega)
                  · refine V.iload k dX3_remove_186 rfl ?_
                    refine V.z_ne (tgt := 262) k dX3_remove_188 (by decide) (by omega) (fun h6 => ?_) (fun h6 => ?_)
                    · refine V.iconst (v := nI 0) k dX3_remove_262 (by decide) ?_
                      exact V.iret k hM dX3_remove_263 (Nat.le_of_ble_eq_true rfl) (Nat.le_of_ble_eq_true rfl) (rt_ok)
                    · exact absurd h6 (by omega)
              · have hNi : NN 0 i ≤ 8 := by
                  rcases hNb i with h | h
                  · exact h
                  · have : 2 ^ (d + 1) ≤ 2 ^ F 6 := Nat.pow_le_pow_right (by omega) hd
                    omega
                refine V.iload k dX3_remove_205 rfl ?_
                refine V.b_ne (tgt := 224) k dX3_remove_207 (by decide) (fun hb => ?_) (fun hb => ?_)
                · refine V.iconst (v := nI 1) k dX3_remove_224 (by decide) ?_
                  refine V.goto (tgt := 229) k dX3_remove_225 (by decide) ?_
                  refine V.stk (st' := [.int (bI (anyD (NN 0) (d + 1) (i + 1)))]) (by rw [anyD, hb]; rfl) ?_
                  refine V.istore (L' := [some (.ref (y)), some (.int (k0)), some (.int (nI (fnd (K 0) k0 (F 5) 0))), some (.int (nI (E))), some (.int (bI (anyD (NN 0) (d + 1) (i + 1)))), some (.int (nI (i)))]) k dX3_remove_229 (Nat.le_of_ble_eq_true rfl) rfl ?_
                  refine V.iinc (x := (nI (i))) (v := (nI (i + 1))) (L' := [some (.ref (y)), some (.int (k0)), some (.int (nI (fnd (K 0) k0 (F 5) 0))), some (.int (nI (E))), some (.int (bI (anyD (NN 0) (d + 1) (i + 1)))), some (.int (nI (i + 1)))]) k dX3_remove_231 rfl (nI_inc1 _) rfl ?_
                  refine V.goto (tgt := 194) k dX3_remove_234 (by decide) ?_
                  exact ih (i + 1) (by omega) (by omega)
                · refine V.aload_n k dX3_remove_210 rfl ?_
                  refine V.getf (v := .ref (y + 3)) k dX3_remove_211 fl_X3_remove_16 (ms_o y (va_up (f5 F (F 5 - 1)) 6 (d + 1)) KK NN Z G0) rfl ?_
                  refine V.iload k dX3_remove_214 rfl ?_
                  refine V.iald (v := (nI (NN 0 (i)))) k dX3_remove_216 (ms_3 y (va_up (f5 F (F 5 - 1)) 6 (d + 1)) KK NN Z G0) rfl (by omega) (by omega) (rfl) ?_
                  refine V.aload_n k dX3_remove_217 rfl ?_
                  refine V.getf (v := .int (nI (d + 1))) k dX3_remove_218 fl_X3_remove_56 (ms_o y (va_up (f5 F (F 5 - 1)) 6 (d + 1)) KK NN Z G0) rfl ?_
                  refine V.n_ne (tgt := 228) k dX3_remove_221 (by decide) (by omega) (by omega) (fun hd2 => ?_) (fun hd2 => ?_)
                  · refine V.iconst (v := nI 0) k dX3_remove_228 (by decide) ?_
                    refine V.stk (st' := [.int (bI (anyD (NN 0) (d + 1) (i + 1)))]) (by rw [anyD, hb, decide_eq_false hd2]; rfl) ?_
                    refine V.istore (L' := [some (.ref (y)), some (.int (k0)), some (.int (nI (fnd (K 0) k0 (F 5) 0))), some (.int (nI (E))), some (.int (bI (anyD (NN 0) (d + 1) (i + 1)))), some (.int (nI (i)))]) k dX3_remove_229 (Nat.le_of_ble_eq_true rfl) rfl ?_
                    refine V.iinc (x := (nI (i))) (v := (nI (i + 1))) (L' := [some (.ref (y)), some (.int (k0)), some (.int (nI (fnd (K 0) k0 (F 5) 0))), some (.int (nI (E))), some (.int (bI (anyD (NN 0) (d + 1) (i + 1)))), some (.int (nI (i + 1)))]) k dX3_remove_231 rfl (nI_inc1 _) rfl ?_
                    refine V.goto (tgt := 194) k dX3_remove_234 (by decide) ?_
                    exact ih (i + 1) (by omega) (by omega)
                  · refine V.iconst (v := nI 1) k dX3_remove_224 (by decide) ?_
                    refine V.goto (tgt := 229) k dX3_remove_225 (by decide) ?_
                    refine V.stk (st' := [.int (bI (anyD (NN 0) (d + 1) (i + 1)))]) (by rw [anyD, hb, decide_eq_true hd2]; rfl) ?_
                    refine V.istore (L' := [some (.ref (y)), some (.int (k0)), some (.int (nI (fnd (K 0) k0 (F 5) 0))), some (.int (nI (E))), some (.int (bI (anyD (NN 0) (d + 1) (i + 1)))), some (.int (nI (i)))]) k dX3_remove_229 (Nat.le_of_ble_eq_true rfl) rfl ?_
                    refine V.iinc (x := (nI (i))) (v := (nI (i + 1))) (L' := [some (.ref (y)), some (.int (k0)), some (.int (nI (fnd (K 0) k0 (F 5) 0))), some (.int (nI (E))), some (.int (bI (anyD (NN 0) (d + 1) (i + 1)))), some (.int (nI (i + 1)))]) k dX3_remove_231 rfl (nI_inc1 _) rfl ?_
                    refine V.goto (tgt := 194) k dX3_remove_234 (by decide) ?_
                    exact ih (i + 1) (by omega) (by omega)
          refine V.iconst (v := nI 0) k dX3_remove_191 (by decide) ?_
          refine V.istore (L' := [some (.ref (y)), some (.int (k0)), some (.int (nI (fnd (K 0) k0 (F 5) 0))), some (.int (nI (E))), some (.int (nI (0))), some (.int (nI (0)))]) k dX3_remove_192 (Nat.le_of_ble_eq_true rfl) rfl ?_
          exact lp (2 ^ (d + 1) + 1) 0 (by omega) (by omega)
  have mg : ∀ (f : Nat) (N1 : Nat → Nat → Nat), N1 0 E < f → (∀ j, N1 0 j ≤ 8 ∨ 2 ^ F 6 ≤ j) → mgN KK (F 5 - 1) (F 6) E f N1 = NN → V p l e ⟨2, 0, 0, 45⟩ s m args below meth c w (mset y (f5 F (F 5 - 1)) KK N1 Z G0) sz 0 0 (mQ w below args s ⟨2, 0, 0, 45⟩ (rt (some (.int (nI 0))) (mset y (va_up (f5 F (F 5 - 1)) 6 (hvD (NN 0) (F 6))) KK NN Z G0) sz)) 96 [some (.ref (y)), some (.int (k0)), some (.int (nI (fnd (K 0) k0 (F 5) 0))), some (.int (nI (E))), none, none] [] := by
    intro f
    induction f with
    | zero => intro N1 h1 h2 h3; omega
    | succ f ihf =>
      intro N1 h1 h2 h3
      have hE8 : N1 0 E ≤ 8 := by
        rcases h2 E with h | h
        · exact h
        · omega
      refine V.aload_n k dX3_remove_96 rfl ?_
      refine V.getf (v := .ref (y + 3)) k dX3_remove_97 fl_X3_remove_16 (ms_o y (f5 F (F 5 - 1)) KK N1 Z G0) rfl ?_
      refine V.iload_n k dX3_remove_100 rfl ?_
      refine V.iald (v := (nI (N1 0 (E)))) k dX3_remove_101 (ms_3 y (f5 F (F 5 - 1)) KK N1 Z G0) rfl (by omega) (by omega) (rfl) ?_
      refine V.z_le (tgt := 176) k dX3_remove_102 (by decide) (by omega) (fun hz => ?_) (fun hz => ?_)
      · have hN : N1 = NN := by rw [← h3]; exact (mgN_stop (fun q => by omega)).symm
        subst hN
        refine V.iconst (v := nI 0) k dX3_remove_176 (by decide) ?_
        refine V.istore (L' := [some (.ref (y)), some (.int (k0)), some (.int (nI (fnd (K 0) k0 (F 5) 0))), some (.int (nI (E))), some (.int (nI (0))), none]) k dX3_remove_177 (Nat.le_of_ble_eq_true rfl) rfl ?_
        refine V.pic (show _ = mset y (va_up (f5 F (F 5 - 1)) 6 (F 6)) KK N1 Z G0 by rw [va_up_id (show f5 F (F 5 - 1) 6 = F 6 from rfl)]) ?_
        exact hv (F 6) 0 (Nat.le_refl _) (Or.inl ⟨rfl, rfl⟩) _
      · have hcl := cnt_le (KK 0) (tn (nI E)) (N1 0 E) (F 5 - 1)
        refine V.aload_n k dX3_remove_105 rfl ?_
        refine V.iload_n k dX3_remove_106 rfl ?_
        refine V.aload_n k dX3_remove_107 rfl ?_
        refine V.getf (v := .ref (y + 3)) k dX3_remove_108 fl_X3_remove_16 (ms_o y (f5 F (F 5 - 1)) KK N1 Z G0) rfl ?_
        refine V.iload_n k dX3_remove_111 rfl ?_
        refine V.iald (v := (nI (N1 0 (E)))) k dX3_remove_112 (ms_3 y (f5 F (F 5 - 1)) KK N1 Z G0) rfl (by omega) (by omega) (rfl) ?_
        refine V.cV (As := [.int (nI (E)), .int (nI (N1 0 (E)))]) (ci := 3) (st1 := [.int (nI (cnt (KK 0) (tn (nI E)) (N1 0 E) (F 5 - 1)))]) k dX3_remove_113 (c_X3_many l w y sz (f5 F (F 5 - 1)) KK N1 Z G0 (nI E) (N1 0 E) (show F 5 - 1 ≤ 3100 by omega) (by omega)) gX3_remove_X3_many rfl rfl (ms_o y (f5 F (F 5 - 1)) KK N1 Z G0) ⟨rfl, hd_X3_many⟩ ⟨⟨Nat.le_of_ble_eq_true rfl, Nat.le_of_ble_eq_true rfl⟩, Nat.le_of_ble_eq_true rfl, Nat.le_of_ble_eq_true rfl⟩ rfl rfl rfl (Nat.le_of_ble_eq_true rfl) rfl ?_
        rw [tn_nI (by omega : E < 2 ^ 32)] at hcl ⊢
        refine V.z_ne (tgt := 176) k dX3_remove_116 (by decide) (by omega) (fun hc => ?_) (fun hc => ?_)
        · have hN : N1 = NN := by rw [← h3]; exact (mgN_stop (fun q => by omega)).symm
          subst hN
          refine V.iconst (v := nI 0) k dX3_remove_176 (by decide) ?_
          refine V.istore (L' := [some (.ref (y)), some (.int (k0)), some (.int (nI (fnd (K 0) k0 (F 5) 0))), some (.int (nI (E))), some (.int (nI (0))), none]) k dX3_remove_177 (Nat.le_of_ble_eq_true rfl) rfl ?_
          refine V.pic (show _ = mset y (va_up (f5 F (F 5 - 1)) 6 (F 6)) KK N1 Z G0 by rw [va_up_id (show f5 F (F 5 - 1) 6 = F 6 from rfl)]) ?_
          exact hv (F 6) 0 (Nat.le_refl _) (Or.inl ⟨rfl, rfl⟩) _
        · have hp2 : 2 ^ (N1 0 E - 1) < 2 ^ 9 := Nat.pow_lt_pow_right (by omega) (by omega)
          have hxl : E ^^^ 2 ^ (N1 0 E - 1) < 2 ^ 9 := Nat.xor_lt_two_pow (by omega) hp2
          have hml : (E ^^^ 2 ^ (N1 0 E - 1)) % 2 ^ F 6 < 2 ^ F 6 := Nat.mod_lt _ hp0
          have hm8 : N1 0 ((E ^^^ 2 ^ (N1 0 E - 1)) % 2 ^ F 6) ≤ 8 := by
            rcases h2 ((E ^^^ 2 ^ (N1 0 E - 1)) % 2 ^ F 6) with h | h
            · exact h
            · omega
          refine V.aload_n k dX3_remove_119 rfl ?_
          refine V.getf (v := .ref (y + 3)) k dX3_remove_120 fl_X3_remove_16 (ms_o y (f5 F (F 5 - 1)) KK N1 Z G0) rfl ?_
          refine V.iload_n k dX3_remove_123 rfl ?_
          refine V.iconst (v := nI 1) k dX3_remove_124 (by decide) ?_
          refine V.aload_n k dX3_remove_125 rfl ?_
          refine V.getf (v := .ref (y + 3)) k dX3_remove_126 fl_X3_remove_16 (ms_o y (f5 F (F 5 - 1)) KK N1 Z G0) rfl ?_
          refine V.iload_n k dX3_remove_129 rfl ?_
          refine V.iald (v := (nI (N1 0 (E)))) k dX3_remove_130 (ms_3 y (f5 F (F 5 - 1)) KK N1 Z G0) rfl (by omega) (by omega) (rfl) ?_
          refine V.iconst (v := nI 1) k dX3_remove_131 (by decide) ?_
          refine V.isub (v := (nI ((N1 0 (E)) - 1))) k dX3_remove_132 (pk_sub (by omega)) ?_
          refine V.ishl (v := (nI (2 ^ ((N1 0 (E)) - 1)))) k dX3_remove_133 (shl1 (by omega)) ?_
          refine V.ixor (v := (nI (E ^^^ 2 ^ (N1 0 E - 1)))) k dX3_remove_134 (nI_xor _ _) ?_
          refine V.aload_n k dX3_remove_135 rfl ?_
          refine V.getf (v := .int (nI (F 6))) k dX3_remove_136 fl_X3_remove_56 (ms_o y (f5 F (F 5 - 1)) KK N1 Z G0) rfl ?_
          refine V.cS (As := [.int (nI (E ^^^ 2 ^ (N1 0 E - 1))), .int (nI (F 6))]) (st1 := [.int (nI (tn (nI (E ^^^ 2 ^ (N1 0 E - 1))) % 2 ^ F 6)), .ref (y + 3)]) k dX3_remove_139 (c_X3_low l w _ sz (nI (E ^^^ 2 ^ (N1 0 E - 1))) (F 6) (by omega)) gX3_remove_X3_low rfl hd_X3_low ⟨⟨Nat.le_of_ble_eq_true rfl, Nat.le_of_ble_eq_true rfl⟩, Nat.le_of_ble_eq_true rfl, Nat.le_of_ble_eq_true rfl⟩ rfl rfl rfl (Nat.le_of_ble_eq_true rfl) rfl ?_
          rw [tn_nI (by omega : E ^^^ 2 ^ (N1 0 E - 1) < 2 ^ 32)]
          refine V.iald (v := (nI (N1 0 ((E ^^^ 2 ^ (N1 0 E - 1)) % 2 ^ F 6)))) k dX3_remove_142 (ms_3 y (f5 F (F 5 - 1)) KK N1 Z G0) rfl (by omega) (by omega) (rfl) ?_
          refine V.aload_n k dX3_remove_143 rfl ?_
          refine V.getf (v := .ref (y + 3)) k dX3_remove_144 fl_X3_remove_16 (ms_o y (f5 F (F 5 - 1)) KK N1 Z G0) rfl ?_
          refine V.iload_n k dX3_remove_147 rfl ?_
          refine V.iald (v := (nI (N1 0 (E)))) k dX3_remove_148 (ms_3 y (f5 F (F 5 - 1)) KK N1 Z G0) rfl (by omega) (by omega) (rfl) ?_
          refine V.n_ne (tgt := 176) k dX3_remove_149 (by decide) (by omega) (by omega) (fun hq => ?_) (fun hq => ?_)
          · have hN : N1 = NN := by rw [← h3]; exact (mgN_stop (fun q => hq q.2.2)).symm
            subst hN
            refine V.iconst (v := nI 0) k dX3_remove_176 (by decide) ?_
            refine V.istore (L' := [some (.ref (y)), some (.int (k0)), some (.int (nI (fnd (K 0) k0 (F 5) 0))), some (.int (nI (E))), some (.int (nI (0))), none]) k dX3_remove_177 (Nat.le_of_ble_eq_true rfl) rfl ?_
            refine V.pic (show _ = mset y (va_up (f5 F (F 5 - 1)) 6 (F 6)) KK N1 Z G0 by rw [va_up_id (show f5 F (F 5 - 1) 6 = F 6 from rfl)]) ?_
            exact hv (F 6) 0 (Nat.le_refl _) (Or.inl ⟨rfl, rfl⟩) _
          · refine V.aload_n k dX3_remove_152 rfl ?_
            refine V.iload_n k dX3_remove_153 rfl ?_
            refine V.aload_n k dX3_remove_154 rfl ?_
            refine V.getf (v := .ref (y + 3)) k dX3_remove_155 fl_X3_remove_16 (ms_o y (f5 F (F 5 - 1)) KK N1 Z G0) rfl ?_
            refine V.iload_n k dX3_remove_158 rfl ?_
            refine V.iald (v := (nI (N1 0 (E)))) k dX3_remove_159 (ms_3 y (f5 F (F 5 - 1)) KK N1 Z G0) rfl (by omega) (by omega) (rfl) ?_
            refine V.iconst (v := nI 1) k dX3_remove_160 (by decide) ?_
            refine V.isub (v := (nI ((N1 0 (E)) - 1))) k dX3_remove_161 (pk_sub (by omega)) ?_
            refine V.aload_n k dX3_remove_162 rfl ?_
            refine V.getf (v := .ref (y + 3)) k dX3_remove_163 fl_X3_remove_16 (ms_o y (f5 F (F 5 - 1)) KK N1 Z G0) rfl ?_
            refine V.iload_n k dX3_remove_166 rfl ?_
            refine V.iald (v := (nI (N1 0 (E)))) k dX3_remove_167 (ms_3 y (f5 F (F 5 - 1)) KK N1 Z G0) rfl (by omega) (by omega) (rfl) ?_
            refine V.iconst (v := nI 1) k dX3_remove_168 (by decide) ?_
            refine V.isub (v := (nI ((N1 0 (E)) - 1))) k dX3_remove_169 (pk_sub (by omega)) ?_
            refine V.cV (As := [.int (nI (E)), .int (nI ((N1 0 (E)) - 1)), .int (nI ((N1 0 (E)) - 1))]) (ci := 3) (st1 := []) k dX3_remove_170 (c_X3_set l w y sz (f5 F (F 5 - 1)) KK N1 Z G0 E (N1 0 E - 1) (N1 0 E - 1) hd6 (by omega) (by omega)) gX3_remove_X3_set rfl rfl (ms_o y (f5 F (F 5 - 1)) KK N1 Z G0) ⟨rfl, hd_X3_set⟩ ⟨⟨Nat.le_of_ble_eq_true rfl, Nat.le_of_ble_eq_true rfl⟩, Nat.le_of_ble_eq_true rfl, Nat.le_of_ble_eq_true rfl⟩ rfl rfl rfl (Nat.le_of_ble_eq_true rfl) rfl ?_
            refine V.goto (tgt := 96) k dX3_remove_173 (by decide) ?_
            rw [mgN, if_pos ⟨hz, hc, hq⟩] at h3
            exact ihf _ (by show setN N1 (2 ^ F 6) E (N1 0 E - 1) (N1 0 E - 1) 0 E < f; rw [setN_at _ he]; omega) (setN_le h2 (by omega)) h3
  refine V.aload_n k dX3_remove_0 rfl ?_
  refine V.iconst (v := nI 0) k dX3_remove_1 (by decide) ?_
  refine V.putf (fs' := mF y (va_up F 0 (0))) k dX3_remove_2 fl_X3_remove_48 ft_X3_0 (ms_o y F K N Z G0) (by first | rfl | decide) rfl (Nat.le_of_ble_eq_true rfl) (by simp [va_up]) ?_
  refine V.pic (msF y F K N Z G0 (va_up F 0 (0))) ?_
  refine V.pic (by rw [va_up_id hF0]) ?_
  refine V.aload_n k dX3_remove_5 rfl ?_
  refine V.getf (v := .int (nI (F 18))) k dX3_remove_6 fl_X3_remove_87 (ms_o y F K N Z G0) rfl ?_
  refine V.z_eq (tgt := 15) k dX3_remove_9 (by decide) (by omega) (fun hd => ?_) (fun hd => ?_)
  · refine V.aload_n k dX3_remove_15 rfl ?_
    refine V.iload_n k dX3_remove_16 rfl ?_
    refine V.cV (As := [.int (k0)]) (ci := 3) (st1 := [.int (if fnd (K 0) k0 (F 5) 0 < F 5 then nI (fnd (K 0) k0 (F 5) 0) else (-1))]) k dX3_remove_17 (c_X3_find l w y sz F K N Z G0 k0 (by omega)) gX3_remove_X3_find rfl rfl (ms_o y F K N Z G0) ⟨rfl, hd_X3_find⟩ ⟨⟨Nat.le_of_ble_eq_true rfl, Nat.le_of_ble_eq_true rfl⟩, Nat.le_of_ble_eq_true rfl, Nat.le_of_ble_eq_true rfl⟩ rfl rfl rfl (Nat.le_of_ble_eq_true rfl) rfl ?_
    simp only [if_pos hA2]
    refine V.istore_n (L' := [some (.ref (y)), some (.int (k0)), some (.int (nI (fnd (K 0) k0 (F 5) 0))), none, none, none]) k dX3_remove_20 (Nat.le_of_ble_eq_true rfl) rfl ?_
    refine V.iload_n k dX3_remove_21 rfl ?_
    refine V.z_ge (tgt := 28) k dX3_remove_22 (by decide) (by omega) (fun h9 => ?_) (fun h9 => ?_)
    · refine V.aload_n k dX3_remove_28 rfl ?_
      refine V.iconst (v := nI 1) k dX3_remove_29 (by decide) ?_
      refine V.putf (fs' := mF y (va_up F 17 (1))) k dX3_remove_30 fl_X3_remove_99 ft_X3_17 (ms_o y F K N Z G0) (by first | rfl | decide) rfl (Nat.le_of_ble_eq_true rfl) (by simp [va_up]) ?_
      refine V.pic (msF y F K N Z G0 (va_up F 17 (1))) ?_
      refine V.aload_n k dX3_remove_33 rfl ?_
      refine V.dup k dX3_remove_34 rfl ?_
      refine V.getf (v := .int (nI (F 5))) k dX3_remove_35 fl_X3_remove_63 (ms_o y (va_up F 17 (1)) K N Z G0) rfl ?_
      refine V.iconst (v := nI 1) k dX3_remove_38 (by decide) ?_
      refine V.isub (v := (nI (F 5 - 1))) k dX3_remove_39 (pk_sub (by omega)) ?_
      refine V.putf (fs' := mF y (va_up (va_up F 17 (1)) 5 (F 5 - 1))) k dX3_remove_40 fl_X3_remove_63 ft_X3_5 (ms_o y (va_up F 17 (1)) K N Z G0) (by first | rfl | decide) rfl (Nat.le_of_ble_eq_true rfl) (by simp [va_up]) ?_
      refine V.pic (msF y (va_up F 17 (1)) K N Z G0 (va_up (va_up F 17 (1)) 5 (F 5 - 1))) ?_
      refine V.aload_n k dX3_remove_43 rfl ?_
      refine V.getf (v := .ref (y + 1)) k dX3_remove_44 fl_X3_remove_7 (ms_o y (va_up (va_up F 17 (1)) 5 (F 5 - 1)) K N Z G0) rfl ?_
      refine V.iload_n k dX3_remove_47 rfl ?_
      refine V.aload_n k dX3_remove_48 rfl ?_
      refine V.getf (v := .ref (y + 1)) k dX3_remove_49 fl_X3_remove_7 (ms_o y (va_up (va_up F 17 (1)) 5 (F 5 - 1)) K N Z G0) rfl ?_
      refine V.aload_n k dX3_remove_52 rfl ?_
      refine V.getf (v := .int (nI (F 5 - 1))) k dX3_remove_53 fl_X3_remove_63 (ms_o y (va_up (va_up F 17 (1)) 5 (F 5 - 1)) K N Z G0) rfl ?_
      refine V.iald (v := (K 0 (F 5 - 1))) k dX3_remove_56 (ms_1 y (va_up (va_up F 17 (1)) 5 (F 5 - 1)) K N Z G0) rfl (by omega) (by omega) (rfl) ?_
      refine V.iast (f' := upd (K 0) (fnd (K 0) k0 (F 5) 0) ((K 0 (F 5 - 1)))) k dX3_remove_57 (ms_1 y (va_up (va_up F 17 (1)) 5 (F 5 - 1)) K N Z G0) rfl (by omega) (by omega) rfl ?_
      refine V.pic (msw_1 y (va_up (va_up F 17 (1)) 5 (F 5 - 1)) K N Z G0 (upd (K 0) (fnd (K 0) k0 (F 5) 0) ((K 0 (F 5 - 1))))) ?_
      refine V.aload_n k dX3_remove_58 rfl ?_
      refine V.getf (v := .ref (y + 2)) k dX3_remove_59 fl_X3_remove_13 (ms_o y (va_up (va_up F 17 (1)) 5 (F 5 - 1)) (va_up K 0 (upd (K 0) (fnd (K 0) k0 (F 5) 0) ((K 0 (F 5 - 1))))) N Z G0) rfl ?_
      refine V.iload_n k dX3_remove_62 rfl ?_
      refine V.aload_n k dX3_remove_63 rfl ?_
      refine V.getf (v := .ref (y + 2)) k dX3_remove_64 fl_X3_remove_13 (ms_o y (va_up (va_up F 17 (1)) 5 (F 5 - 1)) (va_up K 0 (upd (K 0) (fnd (K 0) k0 (F 5) 0) ((K 0 (F 5 - 1))))) N Z G0) rfl ?_
      refine V.aload_n k dX3_remove_67 rfl ?_
      refine V.getf (v := .int (nI (F 5 - 1))) k dX3_remove_68 fl_X3_remove_63 (ms_o y (va_up (va_up F 17 (1)) 5 (F 5 - 1)) (va_up K 0 (upd (K 0) (fnd (K 0) k0 (F 5) 0) ((K 0 (F 5 - 1))))) N Z G0) rfl ?_
      refine V.iald (v := ((va_up K 0 (upd (K 0) (fnd (K 0) k0 (F 5) 0) ((K 0 (F 5 - 1))))) 1 (F 5 - 1))) k dX3_remove_71 (ms_2 y (va_up (va_up F 17 (1)) 5 (F 5 - 1)) (va_up K 0 (upd (K 0) (fnd (K 0) k0 (F 5) 0) ((K 0 (F 5 - 1))))) N Z G0) rfl (by omega) (by omega) (rfl) ?_
      refine V.iast (f' := upd ((va_up K 0 (upd (K 0) (fnd (K 0) k0 (F 5) 0) ((K 0 (F 5 - 1))))) 1) (fnd (K 0) k0 (F 5) 0) (((va_up K 0 (upd (K 0) (fnd (K 0) k0 (F 5) 0) ((K 0 (F 5 - 1))))) 1 (F 5 - 1)))) k dX3_remove_72 (ms_2 y (va_up (va_up F 17 (1)) 5 (F 5 - 1)) (va_up K 0 (upd (K 0) (fnd (K 0) k0 (F 5) 0) ((K 0 (F 5 - 1))))) N Z G0) rfl (by omega) (by omega) rfl ?_
      refine V.pic (msw_2 y (va_up (va_up F 17 (1)) 5 (F 5 - 1)) (va_up K 0 (upd (K 0) (fnd (K 0) k0 (F 5) 0) ((K 0 (F 5 - 1))))) N Z G0 (upd ((va_up K 0 (upd (K 0) (fnd (K 0) k0 (F 5) 0) ((K 0 (F 5 - 1))))) 1) (fnd (K 0) k0 (F 5) 0) (((va_up K 0 (upd (K 0) (fnd (K 0) k0 (F 5) 0) ((K 0 (F 5 - 1))))) 1 (F 5 - 1))))) ?_
      refine V.pic (show _ = mset y (f5 F (F 5 - 1)) KK N Z G0 by rw [← hKK]; rfl) ?_
      refine V.aload_n k dX3_remove_73 rfl ?_
      refine V.iload_n k dX3_remove_74 rfl ?_
      refine V.cV (As := [.int (k0)]) (ci := 3) (st1 := [.int (nI (hx k0 % 2 ^ F 6))]) k dX3_remove_75 (c_X3_entry l w y sz (f5 F (F 5 - 1)) KK N Z G0 k0 hd6) gX3_remove_X3_entry rfl rfl (ms_o y (f5 F (F 5 - 1)) KK N Z G0) ⟨rfl, hd_X3_entry⟩ ⟨⟨Nat.le_of_ble_eq_true rfl, Nat.le_of_ble_eq_true rfl⟩, Nat.le_of_ble_eq_true rfl, Nat.le_of_ble_eq_true rfl⟩ rfl rfl rfl (Nat.le_of_ble_eq_true rfl) rfl ?_
      rw [hE]
      have hE8 : N 0 E ≤ 8 := hl E he
      refine V.istore_n (L' := [some (.ref (y)), some (.int (k0)), some (.int (nI (fnd (K 0) k0 (F 5) 0))), some (.int (nI (E))), none, none]) k dX3_remove_78 (Nat.le_of_ble_eq_true rfl) rfl ?_
      refine V.aload_n k dX3_remove_79 rfl ?_
      refine V.iload_n k dX3_remove_80 rfl ?_
      refine V.aload_n k dX3_remove_81 rfl ?_
      refine V.getf (v := .ref (y + 3)) k dX3_remove_82 fl_X3_remove_16 (ms_o y (f5 F (F 5 - 1)) KK N Z G0) rfl ?_
      refine V.iload_n k dX3_remove_85 rfl ?_
      refine V.iald (v := (nI (N 0 (E)))) k dX3_remove_86 (ms_3 y (f5 F (F 5 - 1)) KK N Z G0) rfl (by omega) (by omega) (rfl) ?_
      refine V.aload_n k dX3_remove_87 rfl ?_
      refine V.getf (v := .ref (y + 3)) k dX3_remove_88 fl_X3_remove_16 (ms_o y (f5 F (F 5 - 1)) KK N Z G0) rfl ?_
      refine V.iload_n k dX3_remove_91 rfl ?_
      refine V.iald (v := (nI (N 0 (E)))) k dX3_remove_92 (ms_3 y (f5 F (F 5 - 1)) KK N Z G0) rfl (by omega) (by omega) (rfl) ?_
      refine V.cV (As := [.int (nI (E)), .int (nI (N 0 (E))), .int (nI (N 0 (E)))]) (ci := 3) (st1 := []) k dX3_remove_93 (c_X3_set l w y sz (f5 F (F 5 - 1)) KK N Z G0 E (N 0 E) (N 0 E) hd6 (by omega) (by omega)) gX3_remove_X3_set rfl rfl (ms_o y (f5 F (F 5 - 1)) KK N Z G0) ⟨rfl, hd_X3_set⟩ ⟨⟨Nat.le_of_ble_eq_true rfl, Nat.le_of_ble_eq_true rfl⟩, Nat.le_of_ble_eq_true rfl, Nat.le_of_ble_eq_true rfl⟩ rfl rfl rfl (Nat.le_of_ble_eq_true rfl) rfl ?_
      refine V.pic (show _ = mset y (f5 F (F 5 - 1)) KK (setN N (2 ^ F 6) E (N 0 E) (N 0 E)) Z G0 from rfl) ?_
      refine mg 9 _ (by show setN N (2 ^ F 6) E (N 0 E) (N 0 E) 0 E < 9; rw [setN_at _ he]; omega) (setN_le (fun j => ?_) (by omega)) ?_
      · by_cases hj : j < 2 ^ F 6
        · exact Or.inl (hl j hj)
        · exact Or.inr (by omega)
      · rw [← hNN, rmN, hE, hKK]
    · exact h9.elim
  · exact absurd hd (by omega)
