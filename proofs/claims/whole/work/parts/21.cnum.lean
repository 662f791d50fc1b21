set_option maxHeartbeats 4000000 in
set_option maxRecDepth 100000 in
theorem c_X2_mix (l : Launch) (w : Wd) (G : Pic) (sz : Nat) (k0 : Int32) : Ct l w yX2_mix wsX2_mix ⟨0, 0, 0, 0⟩ [.int (k0)] G sz (rt (some (.int (mx k0))) G sz) := by
  refine Ct.of (cc := cX2_mix) (maxL := 2) (ret := (some .int)) (L := [some (.int (k0)), none]) (by decide +kernel) rfl (by simp [Value.category]) (by simp) rfl ?_
  intro p e s m args below meth c k hM
  refine V.iload_n k dX2_mix_0 rfl ?_
  refine V.ldc (v := (-1640531535)) k dX2_mix_1 (List.mem_of_getElem? (i := 1) rfl) ?_
  refine V.imul (v := (((k0)) * (((-1640531535))))) k dX2_mix_3 (rfl) ?_
  refine V.istore_n (L' := [some (.int (k0)), some (.int (((k0)) * (((-1640531535)))))]) k dX2_mix_4 (Nat.le_of_ble_eq_true rfl) rfl ?_
  refine V.iload_n k dX2_mix_5 rfl ?_
  refine V.iload_n k dX2_mix_6 rfl ?_
  refine V.bipush (v := nI 15) k dX2_mix_7 (by decide) ?_
  refine V.iushr (v := ((((k0) * ((-1640531535))).toUInt32 >>> ((nI (15)).toUInt32 &&& Int32.toUInt32 31)).toInt32)) k dX2_mix_9 (rfl) ?_
  refine V.ixor (v := (((((k0)) * (((-1640531535))))) ^^^ (((((k0) * ((-1640531535))).toUInt32 >>> ((nI (15)).toUInt32 &&& Int32.toUInt32 31)).toInt32)))) k dX2_mix_10 (rfl) ?_
  exact V.iret k hM dX2_mix_11 (Nat.le_of_ble_eq_true rfl) (Nat.le_of_ble_eq_true rfl) (rt_ok)
theorem bod_eq : ∀ d, d ≤ 8 → (nI (2 ^ d) + nI 32 - nI 1) / nI 32 = nI (drB d) := by decide +kernel
set_option maxHeartbeats 4000000 in
set_option maxRecDepth 100000 in
theorem c_X2_blocksOfDirectory (l : Launch) (w : Wd) (G : Pic) (sz : Nat) (d0 : Nat) (hd : d0 ≤ 8) : Ct l w yX2_blocksOfDirectory wsX2_blocksOfDirectory ⟨0, 0, 0, 0⟩ [.int (nI (d0))] G sz (rt (some (.int (nI (drB d0)))) G sz) := by
  refine Ct.of (cc := cX2_blocksOfDirectory) (maxL := 1) (ret := (some .int)) (L := [some (.int (nI (d0)))]) (by decide +kernel) rfl (by simp [Value.category]) (by simp) rfl ?_
  intro p e s m args below meth c k hM
  refine V.iconst (v := nI 1) k dX2_blocksOfDirectory_0 (by decide) ?_
  refine V.iload_n k dX2_blocksOfDirectory_1 rfl ?_
  refine V.ishl (v := (nI (2 ^ (d0)))) k dX2_blocksOfDirectory_2 (shl1 (by omega)) ?_
  refine V.bipush (v := nI 32) k dX2_blocksOfDirectory_3 (by decide) ?_
  refine V.iadd (v := (nI (2 ^ d0) + nI 32)) k dX2_blocksOfDirectory_5 (rfl) ?_
  refine V.iconst (v := nI 1) k dX2_blocksOfDirectory_6 (by decide) ?_
  refine V.isub (v := (nI (2 ^ d0) + nI 32 - nI 1)) k dX2_blocksOfDirectory_7 (rfl) ?_
  refine V.bipush (v := nI 32) k dX2_blocksOfDirectory_8 (by decide) ?_
  refine V.idiv (v := (nI (drB d0))) k dX2_blocksOfDirectory_10 (by decide) (bod_eq d0 hd) ?_
  exact V.iret k hM dX2_blocksOfDirectory_11 (Nat.le_of_ble_eq_true rfl) (Nat.le_of_ble_eq_true rfl) (rt_ok)
theorem ntz_core (t m n : Nat) (ht : t < 32) (hn : n = 2 ^ (t + 1) * m + 2 ^ t) (hl : n < 2 ^ 32) : (2 ^ 32 - (n + 1)) &&& (n - 1) = 2 ^ t - 1 := by
  have ht2 : 2 ^ t < 2 ^ (t + 1) := Nat.pow_lt_pow_right (by omega) (by omega)
  have hp := Nat.two_pow_pos t
  have hn1 : n - 1 = 2 ^ (t + 1) * m + (2 ^ t - 1) := by omega
  apply Nat.eq_of_testBit_eq
  intro j
  rw [Nat.testBit_and, Nat.testBit_two_pow_sub_succ hl, hn1, hn, Nat.testBit_two_pow_mul_add _ ht2, Nat.testBit_two_pow_mul_add _ (by omega : 2 ^ t - 1 < 2 ^ (t + 1)), Nat.testBit_two_pow_sub_one, Nat.testBit_two_pow]
  by_cases h1 : j < t + 1
  · rw [if_pos h1, if_pos h1]
    by_cases h2 : t = j
    · subst h2; simp
    · have h3 : j < t := by omega
      have h4 : j < 32 := by omega
      simp [h2, h3, h4]
  · rw [if_neg h1, if_neg h1]
    have h3 : ¬ j < t := by omega
    cases hmb : m.testBit (j - (t + 1)) <;> simp [h3]
theorem nat_odd : ∀ (n : Nat), 0 < n → ∃ t m, n = 2 ^ (t + 1) * m + 2 ^ t := by
  intro n
  induction n using Nat.strongRecOn with
  | ind n ih =>
    intro hn
    rcases Nat.mod_two_eq_zero_or_one n with h | h
    · obtain ⟨t, m, e⟩ := ih (n / 2) (by omega) (by omega)
      refine ⟨t + 1, m, ?_⟩
      have h2 : n = 2 * (n / 2) := by omega
      rw [h2, e, Nat.pow_succ 2 (t + 1), Nat.pow_succ 2 t, Nat.mul_add]
      rw [show 2 * (2 ^ t * 2 * m) = 2 ^ t * 2 * 2 * m by rw [Nat.mul_comm 2, Nat.mul_right_comm]]
      rw [Nat.mul_comm 2 (2 ^ t)]
    · exact ⟨0, n / 2, by omega⟩
/-- the lowest bit set, 32 when there is none -/
noncomputable def tz (n : Nat) : Nat := if h : 0 < n then (nat_odd n h).choose else 32
theorem tz_spec {n : Nat} (h : 0 < n) : ∃ m, n = 2 ^ (tz n + 1) * m + 2 ^ tz n := by
  unfold tz
  rw [dif_pos h]
  exact (nat_odd n h).choose_spec
theorem tz_dvd {n b : Nat} (h : 0 < n) : n % 2 ^ b = 0 ↔ b ≤ tz n := by
  obtain ⟨m, e⟩ := tz_spec h
  generalize tz n = t at e
  constructor
  · intro hb
    rcases Nat.lt_or_ge t b with hlt | hge
    · exfalso
      obtain ⟨k, rfl⟩ : ∃ k, b = (t + 1) + k := ⟨b - (t + 1), by omega⟩
      have h1 : n % 2 ^ (t + 1) = 0 := by
        rw [Nat.pow_add] at hb
        have := Nat.mod_mul_right_mod n (2 ^ (t + 1)) (2 ^ k)
        rw [hb] at this
        rw [← this, Nat.zero_mod]
      have h2 : n % 2 ^ (t + 1) = 2 ^ t := by
        rw [e, Nat.mul_add_mod, Nat.mod_eq_of_lt (Nat.pow_lt_pow_right (by omega) (by omega))]
      have := Nat.two_pow_pos t
      omega
    · exact hge
  · intro hb
    obtain ⟨k, rfl⟩ : ∃ k, t = b + k := ⟨t - b, by omega⟩
    rw [e, show b + k + 1 = b + (k + 1) by omega, Nat.pow_add, Nat.pow_add 2 b k, Nat.mul_assoc, ← Nat.mul_add, Nat.mul_mod_right]
theorem tz_lt {n : Nat} (h : 0 < n) (hl : n < 2 ^ 32) : tz n < 32 := by
  rcases Nat.lt_or_ge (tz n) 32 with h1 | h1
  · exact h1
  · have h2 := (tz_dvd (b := 32) h).mpr h1
    rw [Nat.mod_eq_of_lt hl] at h2
    omega
theorem tn_xor (x y : Int32) : tn (x ^^^ y) = tn x ^^^ tn y := by
  unfold tn; rw [Int32.toBitVec_xor, BitVec.toNat_xor]
theorem tn_or (x y : Int32) : tn (x ||| y) = tn x ||| tn y := by
  unfold tn; rw [Int32.toBitVec_or, BitVec.toNat_or]
theorem tn_and (x y : Int32) : tn (x &&& y) = tn x &&& tn y := by
  unfold tn; rw [Int32.toBitVec_and, BitVec.toNat_and]
theorem tn_inj {x y : Int32} (h : tn x = tn y) : x = y := by
  apply Int32.toBitVec_inj.mp
  exact BitVec.eq_of_toNat_eq h
theorem ntz_low (x : Int32) : (x ^^^ (-1)) &&& (x - nI 1) = if tz (tn x) = 32 then -1 else nI (2 ^ tz (tn x) - 1) := by
  have hl := tn_lt x
  by_cases h0 : 0 < tn x
  · have ht := tz_lt h0 hl
    rw [if_neg (by omega)]
    obtain ⟨m, e⟩ := tz_spec h0
    apply tn_inj
    have hle : 2 ^ tz (tn x) ≤ 2 ^ 31 := Nat.pow_le_pow_right (by omega) (by omega)
    rw [tn_nI (by omega), ← ntz_core _ _ _ ht e hl, tn_and]
    congr 1
    · unfold tn at *
      rw [show x ^^^ (-1) = ~~~ x by rw [Int32.xor_neg_one], Int32.toBitVec_not, BitVec.toNat_not]; omega
    · unfold tn at *
      rw [Int32.toBitVec_sub, BitVec.toNat_sub]
      show (2 ^ 32 - 1 + x.toBitVec.toNat) % 2 ^ 32 = _
      omega
  · have hx : x = 0 := tn_inj (by show tn x = 0; omega)
    subst hx
    have : tz (tn 0) = 32 := by unfold tz; rw [dif_neg (by decide)]
    rw [if_pos this]
    decide +kernel
theorem tz_le (x : Int32) : tz (tn x) ≤ 32 := by
  by_cases h0 : 0 < tn x
  · have := tz_lt h0 (tn_lt x); omega
  · unfold tz; rw [dif_neg h0]; omega
set_option maxHeartbeats 4000000 in
set_option maxRecDepth 100000 in
theorem c_J6_numberOfTrailingZeros_0f7a4 (l : Launch) (w : Wd) (G : Pic) (sz : Nat) (x0 : Int32) : Ct l w yJ6_numberOfTrailingZeros_0f7a4 wsJ6_numberOfTrailingZeros_0f7a4 ⟨0, 0, 0, 0⟩ [.int (x0)] G sz (rt (some (.int (nI (tz (tn x0))))) G sz) := by
  refine Ct.of (cc := cJ6_numberOfTrailingZeros_0f7a4) (maxL := 2) (ret := (some .int)) (L := [some (.int (x0)), none]) (by decide +kernel) rfl (by simp [Value.category]) (by simp) rfl ?_
  intro p e s m args below meth c k hM
  refine V.iload_n k dJ6_numberOfTrailingZeros_0f7a4_0 rfl ?_
  refine V.iconst (v := (-1)) k dJ6_numberOfTrailingZeros_0f7a4_1 (by decide) ?_
  refine V.ixor (v := (x0 ^^^ (-1))) k dJ6_numberOfTrailingZeros_0f7a4_2 (rfl) ?_
  refine V.iload_n k dJ6_numberOfTrailingZeros_0f7a4_3 rfl ?_
  refine V.iconst (v := nI 1) k dJ6_numberOfTrailingZeros_0f7a4_4 (by decide) ?_
  refine V.isub (v := (x0 - nI 1)) k dJ6_numberOfTrailingZeros_0f7a4_5 (rfl) ?_
  refine V.iand (v := (if tz (tn x0) = 32 then -1 else nI (2 ^ tz (tn x0) - 1))) k dJ6_numberOfTrailingZeros_0f7a4_6 (ntz_low x0) ?_
  have hle := tz_le x0
  generalize tz (tn x0) = t at hle ⊢
  refine V.dropL 0 (L' := [none, none]) rfl ?_
  rcases (show t = 0 ∨ t = 1 ∨ t = 2 ∨ t = 3 ∨ t = 4 ∨ t = 5 ∨ t = 6 ∨ t = 7 ∨ t = 8 ∨ t = 9 ∨ t = 10 ∨ t = 11 ∨ t = 12 ∨ t = 13 ∨ t = 14 ∨ t = 15 ∨ t = 16 ∨ t = 17 ∨ t = 18 ∨ t = 19 ∨ t = 20 ∨ t = 21 ∨ t = 22 ∨ t = 23 ∨ t = 24 ∨ t = 25 ∨ t = 26 ∨ t = 27 ∨ t = 28 ∨ t = 29 ∨ t = 30 ∨ t = 31 ∨ t = 32 by omega) with rfl | rfl | rfl | rfl | rfl | rfl | rfl | rfl | rfl | rfl | rfl | rfl | rfl | rfl | rfl | rfl | rfl | rfl | rfl | rfl | rfl | rfl | rfl | rfl | rfl | rfl | rfl | rfl | rfl | rfl | rfl | rfl | rfl
  · refine V.stk (st' := [.int (0)]) (by decide +kernel) ?_
    refine V.istore_n (L' := [some (.int ((0))), none]) k dJ6_numberOfTrailingZeros_0f7a4_7 (Nat.le_of_ble_eq_true rfl) rfl ?_
    refine V.iload_n k dJ6_numberOfTrailingZeros_0f7a4_8 rfl ?_
    refine V.if_gt (tgt := 17) k dJ6_numberOfTrailingZeros_0f7a4_9 (by decide) (fun hb => absurd hb (by decide +kernel)) (fun _ => ?_)
    refine V.iload_n k dJ6_numberOfTrailingZeros_0f7a4_12 rfl ?_
    refine V.bipush (v := (32)) k dJ6_numberOfTrailingZeros_0f7a4_13 (by decide) ?_
    refine V.iand (v := (0)) k dJ6_numberOfTrailingZeros_0f7a4_15 (by decide +kernel) ?_
    refine V.stk (st' := [.int (nI 0)]) (by decide +kernel) ?_
    exact V.iret k hM dJ6_numberOfTrailingZeros_0f7a4_16 (Nat.le_of_ble_eq_true rfl) (Nat.le_of_ble_eq_true rfl) (rt_ok)
  · refine V.stk (st' := [.int (1)]) (by decide +kernel) ?_
    refine V.istore_n (L' := [some (.int ((1))), none]) k dJ6_numberOfTrailingZeros_0f7a4_7 (Nat.le_of_ble_eq_true rfl) rfl ?_
    refine V.iload_n k dJ6_numberOfTrailingZeros_0f7a4_8 rfl ?_
    refine V.if_gt (tgt := 17) k dJ6_numberOfTrailingZeros_0f7a4_9 (by decide) (fun _ => ?_) (fun hb => absurd hb (by decide +kernel))
    refine V.iconst (v := (1)) k dJ6_numberOfTrailingZeros_0f7a4_17 (by decide) ?_
    refine V.istore_n (L' := [some (.int ((1))), some (.int ((1)))]) k dJ6_numberOfTrailingZeros_0f7a4_18 (Nat.le_of_ble_eq_true rfl) rfl ?_
    refine V.iload_n k dJ6_numberOfTrailingZeros_0f7a4_19 rfl ?_
    refine V.ldcw (v := (65536)) k dJ6_numberOfTrailingZeros_0f7a4_20 (List.mem_of_getElem? (i := 1) rfl) ?_
    refine V.icmp_le (tgt := 34) k dJ6_numberOfTrailingZeros_0f7a4_23 (by decide) (fun _ => ?_) (fun hb => absurd (by decide +kernel) hb)
    refine V.iload_n k dJ6_numberOfTrailingZeros_0f7a4_34 rfl ?_
    refine V.sipush (v := (256)) k dJ6_numberOfTrailingZeros_0f7a4_35 (by decide) ?_
    refine V.icmp_le (tgt := 49) k dJ6_numberOfTrailingZeros_0f7a4_38 (by decide) (fun _ => ?_) (fun hb => absurd (by decide +kernel) hb)
    refine V.iload_n k dJ6_numberOfTrailingZeros_0f7a4_49 rfl ?_
    refine V.bipush (v := (16)) k dJ6_numberOfTrailingZeros_0f7a4_50 (by decide) ?_
    refine V.icmp_le (tgt := 62) k dJ6_numberOfTrailingZeros_0f7a4_52 (by decide) (fun _ => ?_) (fun hb => absurd (by decide +kernel) hb)
    refine V.iload_n k dJ6_numberOfTrailingZeros_0f7a4_62 rfl ?_
    refine V.iconst (v := (4)) k dJ6_numberOfTrailingZeros_0f7a4_63 (by decide) ?_
    refine V.icmp_le (tgt := 74) k dJ6_numberOfTrailingZeros_0f7a4_64 (by decide) (fun _ => ?_) (fun hb => absurd (by decide +kernel) hb)
    refine V.iload_n k dJ6_numberOfTrailingZeros_0f7a4_74 rfl ?_
    refine V.iload_n k dJ6_numberOfTrailingZeros_0f7a4_75 rfl ?_
    refine V.iconst (v := (1)) k dJ6_numberOfTrailingZeros_0f7a4_76 (by decide) ?_
    refine V.iushr (v := (0)) k dJ6_numberOfTrailingZeros_0f7a4_77 (by decide +kernel) ?_
    refine V.iadd (v := (1)) k dJ6_numberOfTrailingZeros_0f7a4_78 (by decide +kernel) ?_
    refine V.stk (st' := [.int (nI 1)]) (by decide +kernel) ?_
    exact V.iret k hM dJ6_numberOfTrailingZeros_0f7a4_79 (Nat.le_of_ble_eq_true rfl) (Nat.le_of_ble_eq_true rfl) (rt_ok)
  · refine V.stk (st' := [.int (3)]) (by decide +kernel) ?_
    refine V.istore_n (L' := [some (.int ((3))), none]) k dJ6_numberOfTrailingZeros_0f7a4_7 (Nat.le_of_ble_eq_true rfl) rfl ?_
    refine V.iload_n k dJ6_numberOfTrailingZeros_0f7a4_8 rfl ?_
    refine V.if_gt (tgt := 17) k dJ6_numberOfTrailingZeros_0f7a4_9 (by decide) (fun _ => ?_) (fun hb => absurd hb (by decide +kernel))
    refine V.iconst (v := (1)) k dJ6_numberOfTrailingZeros_0f7a4_17 (by decide) ?_
    refine V.istore_n (L' := [some (.int ((3))), some (.int ((1)))]) k dJ6_numberOfTrailingZeros_0f7a4_18 (Nat.le_of_ble_eq_true rfl) rfl ?_
    refine V.iload_n k dJ6_numberOfTrailingZeros_0f7a4_19 rfl ?_
    refine V.ldcw (v := (65536)) k dJ6_numberOfTrailingZeros_0f7a4_20 (List.mem_of_getElem? (i := 1) rfl) ?_
    refine V.icmp_le (tgt := 34) k dJ6_numberOfTrailingZeros_0f7a4_23 (by decide) (fun _ => ?_) (fun hb => absurd (by decide +kernel) hb)
    refine V.iload_n k dJ6_numberOfTrailingZeros_0f7a4_34 rfl ?_
    refine V.sipush (v := (256)) k dJ6_numberOfTrailingZeros_0f7a4_35 (by decide) ?_
    refine V.icmp_le (tgt := 49) k dJ6_numberOfTrailingZeros_0f7a4_38 (by decide) (fun _ => ?_) (fun hb => absurd (by decide +kernel) hb)
    refine V.iload_n k dJ6_numberOfTrailingZeros_0f7a4_49 rfl ?_
    refine V.bipush (v := (16)) k dJ6_numberOfTrailingZeros_0f7a4_50 (by decide) ?_
    refine V.icmp_le (tgt := 62) k dJ6_numberOfTrailingZeros_0f7a4_52 (by decide) (fun _ => ?_) (fun hb => absurd (by decide +kernel) hb)
    refine V.iload_n k dJ6_numberOfTrailingZeros_0f7a4_62 rfl ?_
    refine V.iconst (v := (4)) k dJ6_numberOfTrailingZeros_0f7a4_63 (by decide) ?_
    refine V.icmp_le (tgt := 74) k dJ6_numberOfTrailingZeros_0f7a4_64 (by decide) (fun _ => ?_) (fun hb => absurd (by decide +kernel) hb)
    refine V.iload_n k dJ6_numberOfTrailingZeros_0f7a4_74 rfl ?_
    refine V.iload_n k dJ6_numberOfTrailingZeros_0f7a4_75 rfl ?_
    refine V.iconst (v := (1)) k dJ6_numberOfTrailingZeros_0f7a4_76 (by decide) ?_
    refine V.iushr (v := (1)) k dJ6_numberOfTrailingZeros_0f7a4_77 (by decide +kernel) ?_
    refine V.iadd (v := (2)) k dJ6_numberOfTrailingZeros_0f7a4_78 (by decide +kernel) ?_
    refine V.stk (st' := [.int (nI 2)]) (by decide +kernel) ?_
    exact V.iret k hM dJ6_numberOfTrailingZeros_0f7a4_79 (Nat.le_of_ble_eq_true rfl) (Nat.le_of_ble_eq_true rfl) (rt_ok)
  · refine V.stk (st' := [.int (7)]) (by decide +kernel) ?_
    refine V.istore_n (L' := [some (.int ((7))), none]) k dJ6_numberOfTrailingZeros_0f7a4_7 (Nat.le_of_ble_eq_true rfl) rfl ?_
    refine V.iload_n k dJ6_numberOfTrailingZeros_0f7a4_8 rfl ?_
    refine V.if_gt (tgt := 17) k dJ6_numberOfTrailingZeros_0f7a4_9 (by decide) (fun _ => ?_) (fun hb => absurd hb (by decide +kernel))
    refine V.iconst (v := (1)) k dJ6_numberOfTrailingZeros_0f7a4_17 (by decide) ?_
    refine V.istore_n (L' := [some (.int ((7))), some (.int ((1)))]) k dJ6_numberOfTrailingZeros_0f7a4_18 (Nat.le_of_ble_eq_true rfl) rfl ?_
    refine V.iload_n k dJ6_numberOfTrailingZeros_0f7a4_19 rfl ?_
    refine V.ldcw (v := (65536)) k dJ6_numberOfTrailingZeros_0f7a4_20 (List.mem_of_getElem? (i := 1) rfl) ?_
    refine V.icmp_le (tgt := 34) k dJ6_numberOfTrailingZeros_0f7a4_23 (by decide) (fun _ => ?_) (fun hb => absurd (by decide +kernel) hb)
    refine V.iload_n k dJ6_numberOfTrailingZeros_0f7a4_34 rfl ?_
    refine V.sipush (v := (256)) k dJ6_numberOfTrailingZeros_0f7a4_35 (by decide) ?_
    refine V.icmp_le (tgt := 49) k dJ6_numberOfTrailingZeros_0f7a4_38 (by decide) (fun _ => ?_) (fun hb => absurd (by decide +kernel) hb)
    refine V.iload_n k dJ6_numberOfTrailingZeros_0f7a4_49 rfl ?_
    refine V.bipush (v := (16)) k dJ6_numberOfTrailingZeros_0f7a4_50 (by decide) ?_
    refine V.icmp_le (tgt := 62) k dJ6_numberOfTrailingZeros_0f7a4_52 (by decide) (fun _ => ?_) (fun hb => absurd (by decide +kernel) hb)
    refine V.iload_n k dJ6_numberOfTrailingZeros_0f7a4_62 rfl ?_
    refine V.iconst (v := (4)) k dJ6_numberOfTrailingZeros_0f7a4_63 (by decide) ?_
    refine V.icmp_le (tgt := 74) k dJ6_numberOfTrailingZeros_0f7a4_64 (by decide) (fun hb => absurd hb (by decide +kernel)) (fun _ => ?_)
    refine V.iinc (x := (1)) (v := (3)) (L' := [some (.int ((7))), some (.int ((3)))]) k dJ6_numberOfTrailingZeros_0f7a4_67 rfl (by decide +kernel) rfl ?_
    refine V.iload_n k dJ6_numberOfTrailingZeros_0f7a4_70 rfl ?_
    refine V.iconst (v := (2)) k dJ6_numberOfTrailingZeros_0f7a4_71 (by decide) ?_
    refine V.iushr (v := (1)) k dJ6_numberOfTrailingZeros_0f7a4_72 (by decide +kernel) ?_
    refine V.istore_n (L' := [some (.int ((1))), some (.int ((3)))]) k dJ6_numberOfTrailingZeros_0f7a4_73 (Nat.le_of_ble_eq_true rfl) rfl ?_
    refine V.iload_n k dJ6_numberOfTrailingZeros_0f7a4_74 rfl ?_
    refine V.iload_n k dJ6_numberOfTrailingZeros_0f7a4_75 rfl ?_
    refine V.iconst (v := (1)) k dJ6_numberOfTrailingZeros_0f7a4_76 (by decide) ?_
    refine V.iushr (v := (0)) k dJ6_numberOfTrailingZeros_0f7a4_77 (by decide +kernel) ?_
    refine V.iadd (v := (3)) k dJ6_numberOfTrailingZeros_0f7a4_78 (by decide +kernel) ?_
    refine V.stk (st' := [.int (nI 3)]) (by decide +kernel) ?_
    exact V.iret k hM dJ6_numberOfTrailingZeros_0f7a4_79 (Nat.le_of_ble_eq_true rfl) (Nat.le_of_ble_eq_true rfl) (rt_ok)
  · refine V.stk (st' := [.int (15)]) (by decide +kernel) ?_
    refine V.istore_n (L' := [some (.int ((15))), none]) k dJ6_numberOfTrailingZeros_0f7a4_7 (Nat.le_of_ble_eq_true rfl) rfl ?_
    refine V.iload_n k dJ6_numberOfTrailingZeros_0f7a4_8 rfl ?_
    refine V.if_gt (tgt := 17) k dJ6_numberOfTrailingZeros_0f7a4_9 (by decide) (fun _ => ?_) (fun hb => absurd hb (by decide +kernel))
    refine V.iconst (v := (1)) k dJ6_numberOfTrailingZeros_0f7a4_17 (by decide) ?_
    refine V.istore_n (L' := [some (.int ((15))), some (.int ((1)))]) k dJ6_numberOfTrailingZeros_0f7a4_18 (Nat.le_of_ble_eq_true rfl) rfl ?_
    refine V.iload_n k dJ6_numberOfTrailingZeros_0f7a4_19 rfl ?_
    refine V.ldcw (v := (65536)) k dJ6_numberOfTrailingZeros_0f7a4_20 (List.mem_of_getElem? (i := 1) rfl) ?_
    refine V.icmp_le (tgt := 34) k dJ6_numberOfTrailingZeros_0f7a4_23 (by decide) (fun _ => ?_) (fun hb => absurd (by decide +kernel) hb)
    refine V.iload_n k dJ6_numberOfTrailingZeros_0f7a4_34 rfl ?_
    refine V.sipush (v := (256)) k dJ6_numberOfTrailingZeros_0f7a4_35 (by decide) ?_
    refine V.icmp_le (tgt := 49) k dJ6_numberOfTrailingZeros_0f7a4_38 (by decide) (fun _ => ?_) (fun hb => absurd (by decide +kernel) hb)
    refine V.iload_n k dJ6_numberOfTrailingZeros_0f7a4_49 rfl ?_
    refine V.bipush (v := (16)) k dJ6_numberOfTrailingZeros_0f7a4_50 (by decide) ?_
    refine V.icmp_le (tgt := 62) k dJ6_numberOfTrailingZeros_0f7a4_52 (by decide) (fun _ => ?_) (fun hb => absurd (by decide +kernel) hb)
    refine V.iload_n k dJ6_numberOfTrailingZeros_0f7a4_62 rfl ?_
    refine V.iconst (v := (4)) k dJ6_numberOfTrailingZeros_0f7a4_63 (by decide) ?_
    refine V.icmp_le (tgt := 74) k dJ6_numberOfTrailingZeros_0f7a4_64 (by decide) (fun hb => absurd hb (by decide +kernel)) (fun _ => ?_)
    refine V.iinc (x := (1)) (v := (3)) (L' := [some (.int ((15))), some (.int ((3)))]) k dJ6_numberOfTrailingZeros_0f7a4_67 rfl (by decide +kernel) rfl ?_
    refine V.iload_n k dJ6_numberOfTrailingZeros_0f7a4_70 rfl ?_
    refine V.iconst (v := (2)) k dJ6_numberOfTrailingZeros_0f7a4_71 (by decide) ?_
    refine V.iushr (v := (3)) k dJ6_numberOfTrailingZeros_0f7a4_72 (by decide +kernel) ?_
    refine V.istore_n (L' := [some (.int ((3))), some (.int ((3)))]) k dJ6_numberOfTrailingZeros_0f7a4_73 (Nat.le_of_ble_eq_true rfl) rfl ?_
    refine V.iload_n k dJ6_numberOfTrailingZeros_0f7a4_74 rfl ?_
    refine V.iload_n k dJ6_numberOfTrailingZeros_0f7a4_75 rfl ?_
    refine V.iconst (v := (1)) k dJ6_numberOfTrailingZeros_0f7a4_76 (by decide) ?_
    refine V.iushr (v := (1)) k dJ6_numberOfTrailingZeros_0f7a4_77 (by decide +kernel) ?_
    refine V.iadd (v := (4)) k dJ6_numberOfTrailingZeros_0f7a4_78 (by decide +kernel) ?_
    refine V.stk (st' := [.int (nI 4)]) (by decide +kernel) ?_
    exact V.iret k hM dJ6_numberOfTrailingZeros_0f7a4_79 (Nat.le_of_ble_eq_true rfl) (Nat.le_of_ble_eq_true rfl) (rt_ok)
  · refine V.stk (st' := [.int (31)]) (by decide +kernel) ?_
    refine V.istore_n (L' := [some (.int ((31))), none]) k dJ6_numberOfTrailingZeros_0f7a4_7 (Nat.le_of_ble_eq_true rfl) rfl ?_
    refine V.iload_n k dJ6_numberOfTrailingZeros_0f7a4_8 rfl ?_
    refine V.if_gt (tgt := 17) k dJ6_numberOfTrailingZeros_0f7a4_9 (by decide) (fun _ => ?_) (fun hb => absurd hb (by decide +kernel))
    refine V.iconst (v := (1)) k dJ6_numberOfTrailingZeros_0f7a4_17 (by decide) ?_
    refine V.istore_n (L' := [some (.int ((31))), some (.int ((1)))]) k dJ6_numberOfTrailingZeros_0f7a4_18 (Nat.le_of_ble_eq_true rfl) rfl ?_
    refine V.iload_n k dJ6_numberOfTrailingZeros_0f7a4_19 rfl ?_
    refine V.ldcw (v := (65536)) k dJ6_numberOfTrailingZeros_0f7a4_20 (List.mem_of_getElem? (i := 1) rfl) ?_
    refine V.icmp_le (tgt := 34) k dJ6_numberOfTrailingZeros_0f7a4_23 (by decide) (fun _ => ?_) (fun hb => absurd (by decide +kernel) hb)
    refine V.iload_n k dJ6_numberOfTrailingZeros_0f7a4_34 rfl ?_
    refine V.sipush (v := (256)) k dJ6_numberOfTrailingZeros_0f7a4_35 (by decide) ?_
    refine V.icmp_le (tgt := 49) k dJ6_numberOfTrailingZeros_0f7a4_38 (by decide) (fun _ => ?_) (fun hb => absurd (by decide +kernel) hb)
    refine V.iload_n k dJ6_numberOfTrailingZeros_0f7a4_49 rfl ?_
    refine V.bipush (v := (16)) k dJ6_numberOfTrailingZeros_0f7a4_50 (by decide) ?_
    refine V.icmp_le (tgt := 62) k dJ6_numberOfTrailingZeros_0f7a4_52 (by decide) (fun hb => absurd hb (by decide +kernel)) (fun _ => ?_)
    refine V.iinc (x := (1)) (v := (5)) (L' := [some (.int ((31))), some (.int ((5)))]) k dJ6_numberOfTrailingZeros_0f7a4_55 rfl (by decide +kernel) rfl ?_
    refine V.iload_n k dJ6_numberOfTrailingZeros_0f7a4_58 rfl ?_
    refine V.iconst (v := (4)) k dJ6_numberOfTrailingZeros_0f7a4_59 (by decide) ?_
    refine V.iushr (v := (1)) k dJ6_numberOfTrailingZeros_0f7a4_60 (by decide +kernel) ?_
    refine V.istore_n (L' := [some (.int ((1))), some (.int ((5)))]) k dJ6_numberOfTrailingZeros_0f7a4_61 (Nat.le_of_ble_eq_true rfl) rfl ?_
    refine V.iload_n k dJ6_numberOfTrailingZeros_0f7a4_62 rfl ?_
    refine V.iconst (v := (4)) k dJ6_numberOfTrailingZeros_0f7a4_63 (by decide) ?_
    refine V.icmp_le (tgt := 74) k dJ6_numberOfTrailingZeros_0f7a4_64 (by decide) (fun _ => ?_) (fun hb => absurd (by decide +kernel) hb)
    refine V.iload_n k dJ6_numberOfTrailingZeros_0f7a4_74 rfl ?_
    refine V.iload_n k dJ6_numberOfTrailingZeros_0f7a4_75 rfl ?_
    refine V.iconst (v := (1)) k dJ6_numberOfTrailingZeros_0f7a4_76 (by decide) ?_
    refine V.iushr (v := (0)) k dJ6_numberOfTrailingZeros_0f7a4_77 (by decide +kernel) ?_
    refine V.iadd (v := (5)) k dJ6_numberOfTrailingZeros_0f7a4_78 (by decide +kernel) ?_
    refine V.stk (st' := [.int (nI 5)]) (by decide +kernel) ?_
    exact V.iret k hM dJ6_numberOfTrailingZeros_0f7a4_79 (Nat.le_of_ble_eq_true rfl) (Nat.le_of_ble_eq_true rfl) (rt_ok)
  · refine V.stk (st' := [.int (63)]) (by decide +kernel) ?_
    refine V.istore_n (L' := [some (.int ((63))), none]) k dJ6_numberOfTrailingZeros_0f7a4_7 (Nat.le_of_ble_eq_true rfl) rfl ?_
    refine V.iload_n k dJ6_numberOfTrailingZeros_0f7a4_8 rfl ?_
    refine V.if_gt (tgt := 17) k dJ6_numberOfTrailingZeros_0f7a4_9 (by decide) (fun _ => ?_) (fun hb => absurd hb (by decide +kernel))
    refine V.iconst (v := (1)) k dJ6_numberOfTrailingZeros_0f7a4_17 (by decide) ?_
    refine V.istore_n (L' := [some (.int ((63))), some (.int ((1)))]) k dJ6_numberOfTrailingZeros_0f7a4_18 (Nat.le_of_ble_eq_true rfl) rfl ?_
    refine V.iload_n k dJ6_numberOfTrailingZeros_0f7a4_19 rfl ?_
    refine V.ldcw (v := (65536)) k dJ6_numberOfTrailingZeros_0f7a4_20 (List.mem_of_getElem? (i := 1) rfl) ?_
    refine V.icmp_le (tgt := 34) k dJ6_numberOfTrailingZeros_0f7a4_23 (by decide) (fun _ => ?_) (fun hb => absurd (by decide +kernel) hb)
    refine V.iload_n k dJ6_numberOfTrailingZeros_0f7a4_34 rfl ?_
    refine V.sipush (v := (256)) k dJ6_numberOfTrailingZeros_0f7a4_35 (by decide) ?_
    refine V.icmp_le (tgt := 49) k dJ6_numberOfTrailingZeros_0f7a4_38 (by decide) (fun _ => ?_) (fun hb => absurd (by decide +kernel) hb)
    refine V.iload_n k dJ6_numberOfTrailingZeros_0f7a4_49 rfl ?_
    refine V.bipush (v := (16)) k dJ6_numberOfTrailingZeros_0f7a4_50 (by decide) ?_
    refine V.icmp_le (tgt := 62) k dJ6_numberOfTrailingZeros_0f7a4_52 (by decide) (fun hb => absurd hb (by decide +kernel)) (fun _ => ?_)
    refine V.iinc (x := (1)) (v := (5)) (L' := [some (.int ((63))), some (.int ((5)))]) k dJ6_numberOfTrailingZeros_0f7a4_55 rfl (by decide +kernel) rfl ?_
    refine V.iload_n k dJ6_numberOfTrailingZeros_0f7a4_58 rfl ?_
    refine V.iconst (v := (4)) k dJ6_numberOfTrailingZeros_0f7a4_59 (by decide) ?_
    refine V.iushr (v := (3)) k dJ6_numberOfTrailingZeros_0f7a4_60 (by decide +kernel) ?_
    refine V.istore_n (L' := [some (.int ((3))), some (.int ((5)))]) k dJ6_numberOfTrailingZeros_0f7a4_61 (Nat.le_of_ble_eq_true rfl) rfl ?_
    refine V.iload_n k dJ6_numberOfTrailingZeros_0f7a4_62 rfl ?_
    refine V.iconst (v := (4)) k dJ6_numberOfTrailingZeros_0f7a4_63 (by decide) ?_
    refine V.icmp_le (tgt := 74) k dJ6_numberOfTrailingZeros_0f7a4_64 (by decide) (fun _ => ?_) (fun hb => absurd (by decide +kernel) hb)
    refine V.iload_n k dJ6_numberOfTrailingZeros_0f7a4_74 rfl ?_
    refine V.iload_n k dJ6_numberOfTrailingZeros_0f7a4_75 rfl ?_
    refine V.iconst (v := (1)) k dJ6_numberOfTrailingZeros_0f7a4_76 (by decide) ?_
    refine V.iushr (v := (1)) k dJ6_numberOfTrailingZeros_0f7a4_77 (by decide +kernel) ?_
    refine V.iadd (v := (6)) k dJ6_numberOfTrailingZeros_0f7a4_78 (by decide +kernel) ?_
    refine V.stk (st' := [.int (nI 6)]) (by decide +kernel) ?_
    exact V.iret k hM dJ6_numberOfTrailingZeros_0f7a4_79 (Nat.le_of_ble_eq_true rfl) (Nat.le_of_ble_eq_true rfl) (rt_ok)
  · refine V.stk (st' := [.int (127)]) (by decide +kernel) ?_
    refine V.istore_n (L' := [some (.int ((127))), none]) k dJ6_numberOfTrailingZeros_0f7a4_7 (Nat.le_of_ble_eq_true rfl) rfl ?_
    refine V.iload_n k dJ6_numberOfTrailingZeros_0f7a4_8 rfl ?_
    refine V.if_gt (tgt := 17) k dJ6_numberOfTrailingZeros_0f7a4_9 (by decide) (fun _ => ?_) (fun hb => absurd hb (by decide +kernel))
    refine V.iconst (v := (1)) k dJ6_numberOfTrailingZeros_0f7a4_17 (by decide) ?_
    refine V.istore_n (L' := [some (.int ((127))), some (.int ((1)))]) k dJ6_numberOfTrailingZeros_0f7a4_18 (Nat.le_of_ble_eq_true rfl) rfl ?_
    refine V.iload_n k dJ6_numberOfTrailingZeros_0f7a4_19 rfl ?_
    refine V.ldcw (v := (65536)) k dJ6_numberOfTrailingZeros_0f7a4_20 (List.mem_of_getElem? (i := 1) rfl) ?_
    refine V.icmp_le (tgt := 34) k dJ6_numberOfTrailingZeros_0f7a4_23 (by decide) (fun _ => ?_) (fun hb => absurd (by decide +kernel) hb)
    refine V.iload_n k dJ6_numberOfTrailingZeros_0f7a4_34 rfl ?_
    refine V.sipush (v := (256)) k dJ6_numberOfTrailingZeros_0f7a4_35 (by decide) ?_
    refine V.icmp_le (tgt := 49) k dJ6_numberOfTrailingZeros_0f7a4_38 (by decide) (fun _ => ?_) (fun hb => absurd (by decide +kernel) hb)
    refine V.iload_n k dJ6_numberOfTrailingZeros_0f7a4_49 rfl ?_
    refine V.bipush (v := (16)) k dJ6_numberOfTrailingZeros_0f7a4_50 (by decide) ?_
    refine V.icmp_le (tgt := 62) k dJ6_numberOfTrailingZeros_0f7a4_52 (by decide) (fun hb => absurd hb (by decide +kernel)) (fun _ => ?_)
    refine V.iinc (x := (1)) (v := (5)) (L' := [some (.int ((127))), some (.int ((5)))]) k dJ6_numberOfTrailingZeros_0f7a4_55 rfl (by decide +kernel) rfl ?_
    refine V.iload_n k dJ6_numberOfTrailingZeros_0f7a4_58 rfl ?_
    refine V.iconst (v := (4)) k dJ6_numberOfTrailingZeros_0f7a4_59 (by decide) ?_
    refine V.iushr (v := (7)) k dJ6_numberOfTrailingZeros_0f7a4_60 (by decide +kernel) ?_
    refine V.istore_n (L' := [some (.int ((7))), some (.int ((5)))]) k dJ6_numberOfTrailingZeros_0f7a4_61 (Nat.le_of_ble_eq_true rfl) rfl ?_
    refine V.iload_n k dJ6_numberOfTrailingZeros_0f7a4_62 rfl ?_
    refine V.iconst (v := (4)) k dJ6_numberOfTrailingZeros_0f7a4_63 (by decide) ?_
    refine V.icmp_le (tgt := 74) k dJ6_numberOfTrailingZeros_0f7a4_64 (by decide) (fun hb => absurd hb (by decide +kernel)) (fun _ => ?_)
    refine V.iinc (x := (5)) (v := (7)) (L' := [some (.int ((7))), some (.int ((7)))]) k dJ6_numberOfTrailingZeros_0f7a4_67 rfl (by decide +kernel) rfl ?_
    refine V.iload_n k dJ6_numberOfTrailingZeros_0f7a4_70 rfl ?_
    refine V.iconst (v := (2)) k dJ6_numberOfTrailingZeros_0f7a4_71 (by decide) ?_
    refine V.iushr (v := (1)) k dJ6_numberOfTrailingZeros_0f7a4_72 (by decide +kernel) ?_
    refine V.istore_n (L' := [some (.int ((1))), some (.int ((7)))]) k dJ6_numberOfTrailingZeros_0f7a4_73 (Nat.le_of_ble_eq_true rfl) rfl ?_
    refine V.iload_n k dJ6_numberOfTrailingZeros_0f7a4_74 rfl ?_
    refine V.iload_n k dJ6_numberOfTrailingZeros_0f7a4_75 rfl ?_
    refine V.iconst (v := (1)) k dJ6_numberOfTrailingZeros_0f7a4_76 (by decide) ?_
    refine V.iushr (v := (0)) k dJ6_numberOfTrailingZeros_0f7a4_77 (by decide +kernel) ?_
    refine V.iadd (v := (7)) k dJ6_numberOfTrailingZeros_0f7a4_78 (by decide +kernel) ?_
    refine V.stk (st' := [.int (nI 7)]) (by decide +kernel) ?_
    exact V.iret k hM dJ6_numberOfTrailingZeros_0f7a4_79 (Nat.le_of_ble_eq_true rfl) (Nat.le_of_ble_eq_true rfl) (rt_ok)
  · refine V.stk (st' := [.int (255)]) (by decide +kernel) ?_
    refine V.istore_n (L' := [some (.int ((255))), none]) k dJ6_numberOfTrailingZeros_0f7a4_7 (Nat.le_of_ble_eq_true rfl) rfl ?_
    refine V.iload_n k dJ6_numberOfTrailingZeros_0f7a4_8 rfl ?_
    refine V.if_gt (tgt := 17) k dJ6_numberOfTrailingZeros_0f7a4_9 (by decide) (fun _ => ?_) (fun hb => absurd hb (by decide +kernel))
    refine V.iconst (v := (1)) k dJ6_numberOfTrailingZeros_0f7a4_17 (by decide) ?_
    refine V.istore_n (L' := [some (.int ((255))), some (.int ((1)))]) k dJ6_numberOfTrailingZeros_0f7a4_18 (Nat.le_of_ble_eq_true rfl) rfl ?_
    refine V.iload_n k dJ6_numberOfTrailingZeros_0f7a4_19 rfl ?_
    refine V.ldcw (v := (65536)) k dJ6_numberOfTrailingZeros_0f7a4_20 (List.mem_of_getElem? (i := 1) rfl) ?_
    refine V.icmp_le (tgt := 34) k dJ6_numberOfTrailingZeros_0f7a4_23 (by decide) (fun _ => ?_) (fun hb => absurd (by decide +kernel) hb)
    refine V.iload_n k dJ6_numberOfTrailingZeros_0f7a4_34 rfl ?_
    refine V.sipush (v := (256)) k dJ6_numberOfTrailingZeros_0f7a4_35 (by decide) ?_
    refine V.icmp_le (tgt := 49) k dJ6_numberOfTrailingZeros_0f7a4_38 (by decide) (fun _ => ?_) (fun hb => absurd (by decide +kernel) hb)
    refine V.iload_n k dJ6_numberOfTrailingZeros_0f7a4_49 rfl ?_
    refine V.bipush (v := (16)) k dJ6_numberOfTrailingZeros_0f7a4_50 (by decide) ?_
    refine V.icmp_le (tgt := 62) k dJ6_numberOfTrailingZeros_0f7a4_52 (by decide) (fun hb => absurd hb (by decide +kernel)) (fun _ => ?_)
    refine V.iinc (x := (1)) (v := (5)) (L' := [some (.int ((255))), some (.int ((5)))]) k dJ6_numberOfTrailingZeros_0f7a4_55 rfl (by decide +kernel) rfl ?_
    refine V.iload_n k dJ6_numberOfTrailingZeros_0f7a4_58 rfl ?_
    refine V.iconst (v := (4)) k dJ6_numberOfTrailingZeros_0f7a4_59 (by decide) ?_
    refine V.iushr (v := (15)) k dJ6_numberOfTrailingZeros_0f7a4_60 (by decide +kernel) ?_
    refine V.istore_n (L' := [some (.int ((15))), some (.int ((5)))]) k dJ6_numberOfTrailingZeros_0f7a4_61 (Nat.le_of_ble_eq_true rfl) rfl ?_
    refine V.iload_n k dJ6_numberOfTrailingZeros_0f7a4_62 rfl ?_
    refine V.iconst (v := (4)) k dJ6_numberOfTrailingZeros_0f7a4_63 (by decide) ?_
    refine V.icmp_le (tgt := 74) k dJ6_numberOfTrailingZeros_0f7a4_64 (by decide) (fun hb => absurd hb (by decide +kernel)) (fun _ => ?_)
    refine V.iinc (x := (5)) (v := (7)) (L' := [some (.int ((15))), some (.int ((7)))]) k dJ6_numberOfTrailingZeros_0f7a4_67 rfl (by decide +kernel) rfl ?_
    refine V.iload_n k dJ6_numberOfTrailingZeros_0f7a4_70 rfl ?_
    refine V.iconst (v := (2)) k dJ6_numberOfTrailingZeros_0f7a4_71 (by decide) ?_
    refine V.iushr (v := (3)) k dJ6_numberOfTrailingZeros_0f7a4_72 (by decide +kernel) ?_
    refine V.istore_n (L' := [some (.int ((3))), some (.int ((7)))]) k dJ6_numberOfTrailingZeros_0f7a4_73 (Nat.le_of_ble_eq_true rfl) rfl ?_
    refine V.iload_n k dJ6_numberOfTrailingZeros_0f7a4_74 rfl ?_
    refine V.iload_n k dJ6_numberOfTrailingZeros_0f7a4_75 rfl ?_
    refine V.iconst (v := (1)) k dJ6_numberOfTrailingZeros_0f7a4_76 (by decide) ?_
    refine V.iushr (v := (1)) k dJ6_numberOfTrailingZeros_0f7a4_77 (by decide +kernel) ?_
    refine V.iadd (v := (8)) k dJ6_numberOfTrailingZeros_0f7a4_78 (by decide +kernel) ?_
    refine V.stk (st' := [.int (nI 8)]) (by decide +kernel) ?_
    exact V.iret k hM dJ6_numberOfTrailingZeros_0f7a4_79 (Nat.le_of_ble_eq_true rfl) (Nat.le_of_ble_eq_true rfl) (rt_ok)
  · refine V.stk (st' := [.int (511)]) (by decide +kernel) ?_
    refine V.istore_n (L' := [some (.int ((511))), none]) k dJ6_numberOfTrailingZeros_0f7a4_7 (Nat.le_of_ble_eq_true rfl) rfl ?_
    refine V.iload_n k dJ6_numberOfTrailingZeros_0f7a4_8 rfl ?_
    refine V.if_gt (tgt := 17) k dJ6_numberOfTrailingZeros_0f7a4_9 (by decide) (fun _ => ?_) (fun hb => absurd hb (by decide +kernel))
    refine V.iconst (v := (1)) k dJ6_numberOfTrailingZeros_0f7a4_17 (by decide) ?_
    refine V.istore_n (L' := [some (.int ((511))), some (.int ((1)))]) k dJ6_numberOfTrailingZeros_0f7a4_18 (Nat.le_of_ble_eq_true rfl) rfl ?_
    refine V.iload_n k dJ6_numberOfTrailingZeros_0f7a4_19 rfl ?_
    refine V.ldcw (v := (65536)) k dJ6_numberOfTrailingZeros_0f7a4_20 (List.mem_of_getElem? (i := 1) rfl) ?_
    refine V.icmp_le (tgt := 34) k dJ6_numberOfTrailingZeros_0f7a4_23 (by decide) (fun _ => ?_) (fun hb => absurd (by decide +kernel) hb)
    refine V.iload_n k dJ6_numberOfTrailingZeros_0f7a4_34 rfl ?_
    refine V.sipush (v := (256)) k dJ6_numberOfTrailingZeros_0f7a4_35 (by decide) ?_
    refine V.icmp_le (tgt := 49) k dJ6_numberOfTrailingZeros_0f7a4_38 (by decide) (fun hb => absurd hb (by decide +kernel)) (fun _ => ?_)
    refine V.iinc (x := (1)) (v := (9)) (L' := [some (.int ((511))), some (.int ((9)))]) k dJ6_numberOfTrailingZeros_0f7a4_41 rfl (by decide +kernel) rfl ?_
    refine V.iload_n k dJ6_numberOfTrailingZeros_0f7a4_44 rfl ?_
    refine V.bipush (v := (8)) k dJ6_numberOfTrailingZeros_0f7a4_45 (by decide) ?_
    refine V.iushr (v := (1)) k dJ6_numberOfTrailingZeros_0f7a4_47 (by decide +kernel) ?_
    refine V.istore_n (L' := [some (.int ((1))), some (.int ((9)))]) k dJ6_numberOfTrailingZeros_0f7a4_48 (Nat.le_of_ble_eq_true rfl) rfl ?_
    refine V.iload_n k dJ6_numberOfTrailingZeros_0f7a4_49 rfl ?_
    refine V.bipush (v := (16)) k dJ6_numberOfTrailingZeros_0f7a4_50 (by decide) ?_
    refine V.icmp_le (tgt := 62) k dJ6_numberOfTrailingZeros_0f7a4_52 (by decide) (fun _ => ?_) (fun hb => absurd (by decide +kernel) hb)
    refine V.iload_n k dJ6_numberOfTrailingZeros_0f7a4_62 rfl ?_
    refine V.iconst (v := (4)) k dJ6_numberOfTrailingZeros_0f7a4_63 (by decide) ?_
    refine V.icmp_le (tgt := 74) k dJ6_numberOfTrailingZeros_0f7a4_64 (by decide) (fun _ => ?_) (fun hb => absurd (by decide +kernel) hb)
    refine V.iload_n k dJ6_numberOfTrailingZeros_0f7a4_74 rfl ?_
    refine V.iload_n k dJ6_numberOfTrailingZeros_0f7a4_75 rfl ?_
    refine V.iconst (v := (1)) k dJ6_numberOfTrailingZeros_0f7a4_76 (by decide) ?_
    refine V.iushr (v := (0)) k dJ6_numberOfTrailingZeros_0f7a4_77 (by decide +kernel) ?_
    refine V.iadd (v := (9)) k dJ6_numberOfTrailingZeros_0f7a4_78 (by decide +kernel) ?_
    refine V.stk (st' := [.int (nI 9)]) (by decide +kernel) ?_
    exact V.iret k hM dJ6_numberOfTrailingZeros_0f7a4_79 (Nat.le_of_ble_eq_true rfl) (Nat.le_of_ble_eq_true rfl) (rt_ok)
  · refine V.stk (st' := [.int (1023)]) (by decide +kernel) ?_
    refine V.istore_n (L' := [some (.int ((1023))), none]) k dJ6_numberOfTrailingZeros_0f7a4_7 (Nat.le_of_ble_eq_true rfl) rfl ?_
    refine V.iload_n k dJ6_numberOfTrailingZeros_0f7a4_8 rfl ?_
    refine V.if_gt (tgt := 17) k dJ6_numberOfTrailingZeros_0f7a4_9 (by decide) (fun _ => ?_) (fun hb => absurd hb (by decide +kernel))
    refine V.iconst (v := (1)) k dJ6_numberOfTrailingZeros_0f7a4_17 (by decide) ?_
    refine V.istore_n (L' := [some (.int ((1023))), some (.int ((1)))]) k dJ6_numberOfTrailingZeros_0f7a4_18 (Nat.le_of_ble_eq_true rfl) rfl ?_
    refine V.iload_n k dJ6_numberOfTrailingZeros_0f7a4_19 rfl ?_
    refine V.ldcw (v := (65536)) k dJ6_numberOfTrailingZeros_0f7a4_20 (List.mem_of_getElem? (i := 1) rfl) ?_
    refine V.icmp_le (tgt := 34) k dJ6_numberOfTrailingZeros_0f7a4_23 (by decide) (fun _ => ?_) (fun hb => absurd (by decide +kernel) hb)
    refine V.iload_n k dJ6_numberOfTrailingZeros_0f7a4_34 rfl ?_
    refine V.sipush (v := (256)) k dJ6_numberOfTrailingZeros_0f7a4_35 (by decide) ?_
    refine V.icmp_le (tgt := 49) k dJ6_numberOfTrailingZeros_0f7a4_38 (by decide) (fun hb => absurd hb (by decide +kernel)) (fun _ => ?_)
    refine V.iinc (x := (1)) (v := (9)) (L' := [some (.int ((1023))), some (.int ((9)))]) k dJ6_numberOfTrailingZeros_0f7a4_41 rfl (by decide +kernel) rfl ?_
    refine V.iload_n k dJ6_numberOfTrailingZeros_0f7a4_44 rfl ?_
    refine V.bipush (v := (8)) k dJ6_numberOfTrailingZeros_0f7a4_45 (by decide) ?_
    refine V.iushr (v := (3)) k dJ6_numberOfTrailingZeros_0f7a4_47 (by decide +kernel) ?_
    refine V.istore_n (L' := [some (.int ((3))), some (.int ((9)))]) k dJ6_numberOfTrailingZeros_0f7a4_48 (Nat.le_of_ble_eq_true rfl) rfl ?_
    refine V.iload_n k dJ6_numberOfTrailingZeros_0f7a4_49 rfl ?_
    refine V.bipush (v := (16)) k dJ6_numberOfTrailingZeros_0f7a4_50 (by decide) ?_
    refine V.icmp_le (tgt := 62) k dJ6_numberOfTrailingZeros_0f7a4_52 (by decide) (fun _ => ?_) (fun hb => absurd (by decide +kernel) hb)
    refine V.iload_n k dJ6_numberOfTrailingZeros_0f7a4_62 rfl ?_
    refine V.iconst (v := (4)) k dJ6_numberOfTrailingZeros_0f7a4_63 (by decide) ?_
    refine V.icmp_le (tgt := 74) k dJ6_numberOfTrailingZeros_0f7a4_64 (by decide) (fun _ => ?_) (fun hb => absurd (by decide +kernel) hb)
    refine V.iload_n k dJ6_numberOfTrailingZeros_0f7a4_74 rfl ?_
    refine V.iload_n k dJ6_numberOfTrailingZeros_0f7a4_75 rfl ?_
    refine V.iconst (v := (1)) k dJ6_numberOfTrailingZeros_0f7a4_76 (by decide) ?_
    refine V.iushr (v := (1)) k dJ6_numberOfTrailingZeros_0f7a4_77 (by decide +kernel) ?_
    refine V.iadd (v := (10)) k dJ6_numberOfTrailingZeros_0f7a4_78 (by decide +kernel) ?_
    refine V.stk (st' := [.int (nI 10)]) (by decide +kernel) ?_
    exact V.iret k hM dJ6_numberOfTrailingZeros_0f7a4_79 (Nat.le_of_ble_eq_true rfl) (Nat.le_of_ble_eq_true rfl) (rt_ok)
  · refine V.stk (st' := [.int (2047)]) (by decide +kernel) ?_
    refine V.istore_n (L' := [some (.int ((2047))), none]) k dJ6_numberOfTrailingZeros_0f7a4_7 (Nat.le_of_ble_eq_true rfl) rfl ?_
    refine V.iload_n k dJ6_numberOfTrailingZeros_0f7a4_8 rfl ?_
    refine V.if_gt (tgt := 17) k dJ6_numberOfTrailingZeros_0f7a4_9 (by decide) (fun _ => ?_) (fun hb => absurd hb (by decide +kernel))
    refine V.iconst (v := (1)) k dJ6_numberOfTrailingZeros_0f7a4_17 (by decide) ?_
    refine V.istore_n (L' := [some (.int ((2047))), some (.int ((1)))]) k dJ6_numberOfTrailingZeros_0f7a4_18 (Nat.le_of_ble_eq_true rfl) rfl ?_
    refine V.iload_n k dJ6_numberOfTrailingZeros_0f7a4_19 rfl ?_
    refine V.ldcw (v := (65536)) k dJ6_numberOfTrailingZeros_0f7a4_20 (List.mem_of_getElem? (i := 1) rfl) ?_
    refine V.icmp_le (tgt := 34) k dJ6_numberOfTrailingZeros_0f7a4_23 (by decide) (fun _ => ?_) (fun hb => absurd (by decide +kernel) hb)
    refine V.iload_n k dJ6_numberOfTrailingZeros_0f7a4_34 rfl ?_
    refine V.sipush (v := (256)) k dJ6_numberOfTrailingZeros_0f7a4_35 (by decide) ?_
    refine V.icmp_le (tgt := 49) k dJ6_numberOfTrailingZeros_0f7a4_38 (by decide) (fun hb => absurd hb (by decide +kernel)) (fun _ => ?_)
    refine V.iinc (x := (1)) (v := (9)) (L' := [some (.int ((2047))), some (.int ((9)))]) k dJ6_numberOfTrailingZeros_0f7a4_41 rfl (by decide +kernel) rfl ?_
    refine V.iload_n k dJ6_numberOfTrailingZeros_0f7a4_44 rfl ?_
    refine V.bipush (v := (8)) k dJ6_numberOfTrailingZeros_0f7a4_45 (by decide) ?_
    refine V.iushr (v := (7)) k dJ6_numberOfTrailingZeros_0f7a4_47 (by decide +kernel) ?_
    refine V.istore_n (L' := [some (.int ((7))), some (.int ((9)))]) k dJ6_numberOfTrailingZeros_0f7a4_48 (Nat.le_of_ble_eq_true rfl) rfl ?_
    refine V.iload_n k dJ6_numberOfTrailingZeros_0f7a4_49 rfl ?_
    refine V.bipush (v := (16)) k dJ6_numberOfTrailingZeros_0f7a4_50 (by decide) ?_
    refine V.icmp_le (tgt := 62) k dJ6_numberOfTrailingZeros_0f7a4_52 (by decide) (fun _ => ?_) (fun hb => absurd (by decide +kernel) hb)
    refine V.iload_n k dJ6_numberOfTrailingZeros_0f7a4_62 rfl ?_
    refine V.iconst (v := (4)) k dJ6_numberOfTrailingZeros_0f7a4_63 (by decide) ?_
    refine V.icmp_le (tgt := 74) k dJ6_numberOfTrailingZeros_0f7a4_64 (by decide) (fun hb => absurd hb (by decide +kernel)) (fun _ => ?_)
    refine V.iinc (x := (9)) (v := (11)) (L' := [some (.int ((7))), some (.int ((11)))]) k dJ6_numberOfTrailingZeros_0f7a4_67 rfl (by decide +kernel) rfl ?_
    refine V.iload_n k dJ6_numberOfTrailingZeros_0f7a4_70 rfl ?_
    refine V.iconst (v := (2)) k dJ6_numberOfTrailingZeros_0f7a4_71 (by decide) ?_
    refine V.iushr (v := (1)) k dJ6_numberOfTrailingZeros_0f7a4_72 (by decide +kernel) ?_
    refine V.istore_n (L' := [some (.int ((1))), some (.int ((11)))]) k dJ6_numberOfTrailingZeros_0f7a4_73 (Nat.le_of_ble_eq_true rfl) rfl ?_
    refine V.iload_n k dJ6_numberOfTrailingZeros_0f7a4_74 rfl ?_
    refine V.iload_n k dJ6_numberOfTrailingZeros_0f7a4_75 rfl ?_
    refine V.iconst (v := (1)) k dJ6_numberOfTrailingZeros_0f7a4_76 (by decide) ?_
    refine V.iushr (v := (0)) k dJ6_numberOfTrailingZeros_0f7a4_77 (by decide +kernel) ?_
    refine V.iadd (v := (11)) k dJ6_numberOfTrailingZeros_0f7a4_78 (by decide +kernel) ?_
    refine V.stk (st' := [.int (nI 11)]) (by decide +kernel) ?_
    exact V.iret k hM dJ6_numberOfTrailingZeros_0f7a4_79 (Nat.le_of_ble_eq_true rfl) (Nat.le_of_ble_eq_true rfl) (rt_ok)
  · refine V.stk (st' := [.int (4095)]) (by decide +kernel) ?_
    refine V.istore_n (L' := [some (.int ((4095))), none]) k dJ6_numberOfTrailingZeros_0f7a4_7 (Nat.le_of_ble_eq_true rfl) rfl ?_
    refine V.iload_n k dJ6_numberOfTrailingZeros_0f7a4_8 rfl ?_
    refine V.if_gt (tgt := 17) k dJ6_numberOfTrailingZeros_0f7a4_9 (by decide) (fun _ => ?_) (fun hb => absurd hb (by decide +kernel))
    refine V.iconst (v := (1)) k dJ6_numberOfTrailingZeros_0f7a4_17 (by decide) ?_
    refine V.istore_n (L' := [some (.int ((4095))), some (.int ((1)))]) k dJ6_numberOfTrailingZeros_0f7a4_18 (Nat.le_of_ble_eq_true rfl) rfl ?_
    refine V.iload_n k dJ6_numberOfTrailingZeros_0f7a4_19 rfl ?_
    refine V.ldcw (v := (65536)) k dJ6_numberOfTrailingZeros_0f7a4_20 (List.mem_of_getElem? (i := 1) rfl) ?_
    refine V.icmp_le (tgt := 34) k dJ6_numberOfTrailingZeros_0f7a4_23 (by decide) (fun _ => ?_) (fun hb => absurd (by decide +kernel) hb)
    refine V.iload_n k dJ6_numberOfTrailingZeros_0f7a4_34 rfl ?_
    refine V.sipush (v := (256)) k dJ6_numberOfTrailingZeros_0f7a4_35 (by decide) ?_
    refine V.icmp_le (tgt := 49) k dJ6_numberOfTrailingZeros_0f7a4_38 (by decide) (fun hb => absurd hb (by decide +kernel)) (fun _ => ?_)
    refine V.iinc (x := (1)) (v := (9)) (L' := [some (.int ((4095))), some (.int ((9)))]) k dJ6_numberOfTrailingZeros_0f7a4_41 rfl (by decide +kernel) rfl ?_
    refine V.iload_n k dJ6_numberOfTrailingZeros_0f7a4_44 rfl ?_
    refine V.bipush (v := (8)) k dJ6_numberOfTrailingZeros_0f7a4_45 (by decide) ?_
    refine V.iushr (v := (15)) k dJ6_numberOfTrailingZeros_0f7a4_47 (by decide +kernel) ?_
    refine V.istore_n (L' := [some (.int ((15))), some (.int ((9)))]) k dJ6_numberOfTrailingZeros_0f7a4_48 (Nat.le_of_ble_eq_true rfl) rfl ?_
    refine V.iload_n k dJ6_numberOfTrailingZeros_0f7a4_49 rfl ?_
    refine V.bipush (v := (16)) k dJ6_numberOfTrailingZeros_0f7a4_50 (by decide) ?_
    refine V.icmp_le (tgt := 62) k dJ6_numberOfTrailingZeros_0f7a4_52 (by decide) (fun _ => ?_) (fun hb => absurd (by decide +kernel) hb)
    refine V.iload_n k dJ6_numberOfTrailingZeros_0f7a4_62 rfl ?_
    refine V.iconst (v := (4)) k dJ6_numberOfTrailingZeros_0f7a4_63 (by decide) ?_
    refine V.icmp_le (tgt := 74) k dJ6_numberOfTrailingZeros_0f7a4_64 (by decide) (fun hb => absurd hb (by decide +kernel)) (fun _ => ?_)
    refine V.iinc (x := (9)) (v := (11)) (L' := [some (.int ((15))), some (.int ((11)))]) k dJ6_numberOfTrailingZeros_0f7a4_67 rfl (by decide +kernel) rfl ?_
    refine V.iload_n k dJ6_numberOfTrailingZeros_0f7a4_70 rfl ?_
    refine V.iconst (v := (2)) k dJ6_numberOfTrailingZeros_0f7a4_71 (by decide) ?_
    refine V.iushr (v := (3)) k dJ6_numberOfTrailingZeros_0f7a4_72 (by decide +kernel) ?_
    refine V.istore_n (L' := [some (.int ((3))), some (.int ((11)))]) k dJ6_numberOfTrailingZeros_0f7a4_73 (Nat.le_of_ble_eq_true rfl) rfl ?_
    refine V.iload_n k dJ6_numberOfTrailingZeros_0f7a4_74 rfl ?_
    refine V.iload_n k dJ6_numberOfTrailingZeros_0f7a4_75 rfl ?_
    refine V.iconst (v := (1)) k dJ6_numberOfTrailingZeros_0f7a4_76 (by decide) ?_
    refine V.iushr (v := (1)) k dJ6_numberOfTrailingZeros_0f7a4_77 (by decide +kernel) ?_
    refine V.iadd (v := (12)) k dJ6_numberOfTrailingZeros_0f7a4_78 (by decide +kernel) ?_
    refine V.stk (st' := [.int (nI 12)]) (by decide +kernel) ?_
    exact V.iret k hM dJ6_numberOfTrailingZeros_0f7a4_79 (Nat.le_of_ble_eq_true rfl) (Nat.le_of_ble_eq_true rfl) (rt_ok)
  · refine V.stk (st' := [.int (8191)]) (by decide +kernel) ?_
    refine V.istore_n (L' := [some (.int ((8191))), none]) k dJ6_numberOfTrailingZeros_0f7a4_7 (Nat.le_of_ble_eq_true rfl) rfl ?_
    refine V.iload_n k dJ6_numberOfTrailingZeros_0f7a4_8 rfl ?_
    refine V.if_gt (tgt := 17) k dJ6_numberOfTrailingZeros_0f7a4_9 (by decide) (fun _ => ?_) (fun hb => absurd hb (by decide +kernel))
    refine V.iconst (v := (1)) k dJ6_numberOfTrailingZeros_0f7a4_17 (by decide) ?_
    refine V.istore_n (L' := [some (.int ((8191))), some (.int ((1)))]) k dJ6_numberOfTrailingZeros_0f7a4_18 (Nat.le_of_ble_eq_true rfl) rfl ?_
    refine V.iload_n k dJ6_numberOfTrailingZeros_0f7a4_19 rfl ?_
    refine V.ldcw (v := (65536)) k dJ6_numberOfTrailingZeros_0f7a4_20 (List.mem_of_getElem? (i := 1) rfl) ?_
    refine V.icmp_le (tgt := 34) k dJ6_numberOfTrailingZeros_0f7a4_23 (by decide) (fun _ => ?_) (fun hb => absurd (by decide +kernel) hb)
    refine V.iload_n k dJ6_numberOfTrailingZeros_0f7a4_34 rfl ?_
    refine V.sipush (v := (256)) k dJ6_numberOfTrailingZeros_0f7a4_35 (by decide) ?_
    refine V.icmp_le (tgt := 49) k dJ6_numberOfTrailingZeros_0f7a4_38 (by decide) (fun hb => absurd hb (by decide +kernel)) (fun _ => ?_)
    refine V.iinc (x := (1)) (v := (9)) (L' := [some (.int ((8191))), some (.int ((9)))]) k dJ6_numberOfTrailingZeros_0f7a4_41 rfl (by decide +kernel) rfl ?_
    refine V.iload_n k dJ6_numberOfTrailingZeros_0f7a4_44 rfl ?_
    refine V.bipush (v := (8)) k dJ6_numberOfTrailingZeros_0f7a4_45 (by decide) ?_
    refine V.iushr (v := (31)) k dJ6_numberOfTrailingZeros_0f7a4_47 (by decide +kernel) ?_
    refine V.istore_n (L' := [some (.int ((31))), some (.int ((9)))]) k dJ6_numberOfTrailingZeros_0f7a4_48 (Nat.le_of_ble_eq_true rfl) rfl ?_
    refine V.iload_n k dJ6_numberOfTrailingZeros_0f7a4_49 rfl ?_
    refine V.bipush (v := (16)) k dJ6_numberOfTrailingZeros_0f7a4_50 (by decide) ?_
    refine V.icmp_le (tgt := 62) k dJ6_numberOfTrailingZeros_0f7a4_52 (by decide) (fun hb => absurd hb (by decide +kernel)) (fun _ => ?_)
    refine V.iinc (x := (9)) (v := (13)) (L' := [some (.int ((31))), some (.int ((13)))]) k dJ6_numberOfTrailingZeros_0f7a4_55 rfl (by decide +kernel) rfl ?_
    refine V.iload_n k dJ6_numberOfTrailingZeros_0f7a4_58 rfl ?_
    refine V.iconst (v := (4)) k dJ6_numberOfTrailingZeros_0f7a4_59 (by decide) ?_
    refine V.iushr (v := (1)) k dJ6_numberOfTrailingZeros_0f7a4_60 (by decide +kernel) ?_
    refine V.istore_n (L' := [some (.int ((1))), some (.int ((13)))]) k dJ6_numberOfTrailingZeros_0f7a4_61 (Nat.le_of_ble_eq_true rfl) rfl ?_
    refine V.iload_n k dJ6_numberOfTrailingZeros_0f7a4_62 rfl ?_
    refine V.iconst (v := (4)) k dJ6_numberOfTrailingZeros_0f7a4_63 (by decide) ?_
    refine V.icmp_le (tgt := 74) k dJ6_numberOfTrailingZeros_0f7a4_64 (by decide) (fun _ => ?_) (fun hb => absurd (by decide +kernel) hb)
    refine V.iload_n k dJ6_numberOfTrailingZeros_0f7a4_74 rfl ?_
    refine V.iload_n k dJ6_numberOfTrailingZeros_0f7a4_75 rfl ?_
    refine V.iconst (v := (1)) k dJ6_numberOfTrailingZeros_0f7a4_76 (by decide) ?_
    refine V.iushr (v := (0)) k dJ6_numberOfTrailingZeros_0f7a4_77 (by decide +kernel) ?_
    refine V.iadd (v := (13)) k dJ6_numberOfTrailingZeros_0f7a4_78 (by decide +kernel) ?_
    refine V.stk (st' := [.int (nI 13)]) (by decide +kernel) ?_
    exact V.iret k hM dJ6_numberOfTrailingZeros_0f7a4_79 (Nat.le_of_ble_eq_true rfl) (Nat.le_of_ble_eq_true rfl) (rt_ok)
  · refine V.stk (st' := [.int (16383)]) (by decide +kernel) ?_
    refine V.istore_n (L' := [some (.int ((16383))), none]) k dJ6_numberOfTrailingZeros_0f7a4_7 (Nat.le_of_ble_eq_true rfl) rfl ?_
    refine V.iload_n k dJ6_numberOfTrailingZeros_0f7a4_8 rfl ?_
    refine V.if_gt (tgt := 17) k dJ6_numberOfTrailingZeros_0f7a4_9 (by decide) (fun _ => ?_) (fun hb => absurd hb (by decide +kernel))
    refine V.iconst (v := (1)) k dJ6_numberOfTrailingZeros_0f7a4_17 (by decide) ?_
    refine V.istore_n (L' := [some (.int ((16383))), some (.int ((1)))]) k dJ6_numberOfTrailingZeros_0f7a4_18 (Nat.le_of_ble_eq_true rfl) rfl ?_
    refine V.iload_n k dJ6_numberOfTrailingZeros_0f7a4_19 rfl ?_
    refine V.ldcw (v := (65536)) k dJ6_numberOfTrailingZeros_0f7a4_20 (List.mem_of_getElem? (i := 1) rfl) ?_
    refine V.icmp_le (tgt := 34) k dJ6_numberOfTrailingZeros_0f7a4_23 (by decide) (fun _ => ?_) (fun hb => absurd (by decide +kernel) hb)
    refine V.iload_n k dJ6_numberOfTrailingZeros_0f7a4_34 rfl ?_
    refine V.sipush (v := (256)) k dJ6_numberOfTrailingZeros_0f7a4_35 (by decide) ?_
    refine V.icmp_le (tgt := 49) k dJ6_numberOfTrailingZeros_0f7a4_38 (by decide) (fun hb => absurd hb (by decide +kernel)) (fun _ => ?_)
    refine V.iinc (x := (1)) (v := (9)) (L' := [some (.int ((16383))), some (.int ((9)))]) k dJ6_numberOfTrailingZeros_0f7a4_41 rfl (by decide +kernel) rfl ?_
    refine V.iload_n k dJ6_numberOfTrailingZeros_0f7a4_44 rfl ?_
    refine V.bipush (v := (8)) k dJ6_numberOfTrailingZeros_0f7a4_45 (by decide) ?_
    refine V.iushr (v := (63)) k dJ6_numberOfTrailingZeros_0f7a4_47 (by decide +kernel) ?_
    refine V.istore_n (L' := [some (.int ((63))), some (.int ((9)))]) k dJ6_numberOfTrailingZeros_0f7a4_48 (Nat.le_of_ble_eq_true rfl) rfl ?_
    refine V.iload_n k dJ6_numberOfTrailingZeros_0f7a4_49 rfl ?_
    refine V.bipush (v := (16)) k dJ6_numberOfTrailingZeros_0f7a4_50 (by decide) ?_
    refine V.icmp_le (tgt := 62) k dJ6_numberOfTrailingZeros_0f7a4_52 (by decide) (fun hb => absurd hb (by decide +kernel)) (fun _ => ?_)
    refine V.iinc (x := (9)) (v := (13)) (L' := [some (.int ((63))), some (.int ((13)))]) k dJ6_numberOfTrailingZeros_0f7a4_55 rfl (by decide +kernel) rfl ?_
    refine V.iload_n k dJ6_numberOfTrailingZeros_0f7a4_58 rfl ?_
    refine V.iconst (v := (4)) k dJ6_numberOfTrailingZeros_0f7a4_59 (by decide) ?_
    refine V.iushr (v := (3)) k dJ6_numberOfTrailingZeros_0f7a4_60 (by decide +kernel) ?_
    refine V.istore_n (L' := [some (.int ((3))), some (.int ((13)))]) k dJ6_numberOfTrailingZeros_0f7a4_61 (Nat.le_of_ble_eq_true rfl) rfl ?_
    refine V.iload_n k dJ6_numberOfTrailingZeros_0f7a4_62 rfl ?_
    refine V.iconst (v := (4)) k dJ6_numberOfTrailingZeros_0f7a4_63 (by decide) ?_
    refine V.icmp_le (tgt := 74) k dJ6_numberOfTrailingZeros_0f7a4_64 (by decide) (fun _ => ?_) (fun hb => absurd (by decide +kernel) hb)
    refine V.iload_n k dJ6_numberOfTrailingZeros_0f7a4_74 rfl ?_
    refine V.iload_n k dJ6_numberOfTrailingZeros_0f7a4_75 rfl ?_
    refine V.iconst (v := (1)) k dJ6_numberOfTrailingZeros_0f7a4_76 (by decide) ?_
    refine V.iushr (v := (1)) k dJ6_numberOfTrailingZeros_0f7a4_77 (by decide +kernel) ?_
    refine V.iadd (v := (14)) k dJ6_numberOfTrailingZeros_0f7a4_78 (by decide +kernel) ?_
    refine V.stk (st' := [.int (nI 14)]) (by decide +kernel) ?_
    exact V.iret k hM dJ6_numberOfTrailingZeros_0f7a4_79 (Nat.le_of_ble_eq_true rfl) (Nat.le_of_ble_eq_true rfl) (rt_ok)
  · refine V.stk (st' := [.int (32767)]) (by decide +kernel) ?_
    refine V.istore_n (L' := [some (.int ((32767))), none]) k dJ6_numberOfTrailingZeros_0f7a4_7 (Nat.le_of_ble_eq_true rfl) rfl ?_
    refine V.iload_n k dJ6_numberOfTrailingZeros_0f7a4_8 rfl ?_
    refine V.if_gt (tgt := 17) k dJ6_numberOfTrailingZeros_0f7a4_9 (by decide) (fun _ => ?_) (fun hb => absurd hb (by decide +kernel))
    refine V.iconst (v := (1)) k dJ6_numberOfTrailingZeros_0f7a4_17 (by decide) ?_
    refine V.istore_n (L' := [some (.int ((32767))), some (.int ((1)))]) k dJ6_numberOfTrailingZeros_0f7a4_18 (Nat.le_of_ble_eq_true rfl) rfl ?_
    refine V.iload_n k dJ6_numberOfTrailingZeros_0f7a4_19 rfl ?_
    refine V.ldcw (v := (65536)) k dJ6_numberOfTrailingZeros_0f7a4_20 (List.mem_of_getElem? (i := 1) rfl) ?_
    refine V.icmp_le (tgt := 34) k dJ6_numberOfTrailingZeros_0f7a4_23 (by decide) (fun _ => ?_) (fun hb => absurd (by decide +kernel) hb)
    refine V.iload_n k dJ6_numberOfTrailingZeros_0f7a4_34 rfl ?_
    refine V.sipush (v := (256)) k dJ6_numberOfTrailingZeros_0f7a4_35 (by decide) ?_
    refine V.icmp_le (tgt := 49) k dJ6_numberOfTrailingZeros_0f7a4_38 (by decide) (fun hb => absurd hb (by decide +kernel)) (fun _ => ?_)
    refine V.iinc (x := (1)) (v := (9)) (L' := [some (.int ((32767))), some (.int ((9)))]) k dJ6_numberOfTrailingZeros_0f7a4_41 rfl (by decide +kernel) rfl ?_
    refine V.iload_n k dJ6_numberOfTrailingZeros_0f7a4_44 rfl ?_
    refine V.bipush (v := (8)) k dJ6_numberOfTrailingZeros_0f7a4_45 (by decide) ?_
    refine V.iushr (v := (127)) k dJ6_numberOfTrailingZeros_0f7a4_47 (by decide +kernel) ?_
    refine V.istore_n (L' := [some (.int ((127))), some (.int ((9)))]) k dJ6_numberOfTrailingZeros_0f7a4_48 (Nat.le_of_ble_eq_true rfl) rfl ?_
    refine V.iload_n k dJ6_numberOfTrailingZeros_0f7a4_49 rfl ?_
    refine V.bipush (v := (16)) k dJ6_numberOfTrailingZeros_0f7a4_50 (by decide) ?_
    refine V.icmp_le (tgt := 62) k dJ6_numberOfTrailingZeros_0f7a4_52 (by decide) (fun hb => absurd hb (by decide +kernel)) (fun _ => ?_)
    refine V.iinc (x := (9)) (v := (13)) (L' := [some (.int ((127))), some (.int ((13)))]) k dJ6_numberOfTrailingZeros_0f7a4_55 rfl (by decide +kernel) rfl ?_
    refine V.iload_n k dJ6_numberOfTrailingZeros_0f7a4_58 rfl ?_
    refine V.iconst (v := (4)) k dJ6_numberOfTrailingZeros_0f7a4_59 (by decide) ?_
    refine V.iushr (v := (7)) k dJ6_numberOfTrailingZeros_0f7a4_60 (by decide +kernel) ?_
    refine V.istore_n (L' := [some (.int ((7))), some (.int ((13)))]) k dJ6_numberOfTrailingZeros_0f7a4_61 (Nat.le_of_ble_eq_true rfl) rfl ?_
    refine V.iload_n k dJ6_numberOfTrailingZeros_0f7a4_62 rfl ?_
    refine V.iconst (v := (4)) k dJ6_numberOfTrailingZeros_0f7a4_63 (by decide) ?_
    refine V.icmp_le (tgt := 74) k dJ6_numberOfTrailingZeros_0f7a4_64 (by decide) (fun hb => absurd hb (by decide +kernel)) (fun _ => ?_)
    refine V.iinc (x := (13)) (v := (15)) (L' := [some (.int ((7))), some (.int ((15)))]) k dJ6_numberOfTrailingZeros_0f7a4_67 rfl (by decide +kernel) rfl ?_
    refine V.iload_n k dJ6_numberOfTrailingZeros_0f7a4_70 rfl ?_
    refine V.iconst (v := (2)) k dJ6_numberOfTrailingZeros_0f7a4_71 (by decide) ?_
    refine V.iushr (v := (1)) k dJ6_numberOfTrailingZeros_0f7a4_72 (by decide +kernel) ?_
    refine V.istore_n (L' := [some (.int ((1))), some (.int ((15)))]) k dJ6_numberOfTrailingZeros_0f7a4_73 (Nat.le_of_ble_eq_true rfl) rfl ?_
    refine V.iload_n k dJ6_numberOfTrailingZeros_0f7a4_74 rfl ?_
    refine V.iload_n k dJ6_numberOfTrailingZeros_0f7a4_75 rfl ?_
    refine V.iconst (v := (1)) k dJ6_numberOfTrailingZeros_0f7a4_76 (by decide) ?_
    refine V.iushr (v := (0)) k dJ6_numberOfTrailingZeros_0f7a4_77 (by decide +kernel) ?_
    refine V.iadd (v := (15)) k dJ6_numberOfTrailingZeros_0f7a4_78 (by decide +kernel) ?_
    refine V.stk (st' := [.int (nI 15)]) (by decide +kernel) ?_
    exact V.iret k hM dJ6_numberOfTrailingZeros_0f7a4_79 (Nat.le_of_ble_eq_true rfl) (Nat.le_of_ble_eq_true rfl) (rt_ok)
  · refine V.stk (st' := [.int (65535)]) (by decide +kernel) ?_
    refine V.istore_n (L' := [some (.int ((65535))), none]) k dJ6_numberOfTrailingZeros_0f7a4_7 (Nat.le_of_ble_eq_true rfl) rfl ?_
    refine V.iload_n k dJ6_numberOfTrailingZeros_0f7a4_8 rfl ?_
    refine V.if_gt (tgt := 17) k dJ6_numberOfTrailingZeros_0f7a4_9 (by decide) (fun _ => ?_) (fun hb => absurd hb (by decide +kernel))
    refine V.iconst (v := (1)) k dJ6_numberOfTrailingZeros_0f7a4_17 (by decide) ?_
    refine V.istore_n (L' := [some (.int ((65535))), some (.int ((1)))]) k dJ6_numberOfTrailingZeros_0f7a4_18 (Nat.le_of_ble_eq_true rfl) rfl ?_
    refine V.iload_n k dJ6_numberOfTrailingZeros_0f7a4_19 rfl ?_
    refine V.ldcw (v := (65536)) k dJ6_numberOfTrailingZeros_0f7a4_20 (List.mem_of_getElem? (i := 1) rfl) ?_
    refine V.icmp_le (tgt := 34) k dJ6_numberOfTrailingZeros_0f7a4_23 (by decide) (fun _ => ?_) (fun hb => absurd (by decide +kernel) hb)
    refine V.iload_n k dJ6_numberOfTrailingZeros_0f7a4_34 rfl ?_
    refine V.sipush (v := (256)) k dJ6_numberOfTrailingZeros_0f7a4_35 (by decide) ?_
    refine V.icmp_le (tgt := 49) k dJ6_numberOfTrailingZeros_0f7a4_38 (by decide) (fun hb => absurd hb (by decide +kernel)) (fun _ => ?_)
    refine V.iinc (x := (1)) (v := (9)) (L' := [some (.int ((65535))), some (.int ((9)))]) k dJ6_numberOfTrailingZeros_0f7a4_41 rfl (by decide +kernel) rfl ?_
    refine V.iload_n k dJ6_numberOfTrailingZeros_0f7a4_44 rfl ?_
    refine V.bipush (v := (8)) k dJ6_numberOfTrailingZeros_0f7a4_45 (by decide) ?_
    refine V.iushr (v := (255)) k dJ6_numberOfTrailingZeros_0f7a4_47 (by decide +kernel) ?_
    refine V.istore_n (L' := [some (.int ((255))), some (.int ((9)))]) k dJ6_numberOfTrailingZeros_0f7a4_48 (Nat.le_of_ble_eq_true rfl) rfl ?_
    refine V.iload_n k dJ6_numberOfTrailingZeros_0f7a4_49 rfl ?_
    refine V.bipush (v := (16)) k dJ6_numberOfTrailingZeros_0f7a4_50 (by decide) ?_
    refine V.icmp_le (tgt := 62) k dJ6_numberOfTrailingZeros_0f7a4_52 (by decide) (fun hb => absurd hb (by decide +kernel)) (fun _ => ?_)
    refine V.iinc (x := (9)) (v := (13)) (L' := [some (.int ((255))), some (.int ((13)))]) k dJ6_numberOfTrailingZeros_0f7a4_55 rfl (by decide +kernel) rfl ?_
    refine V.iload_n k dJ6_numberOfTrailingZeros_0f7a4_58 rfl ?_
    refine V.iconst (v := (4)) k dJ6_numberOfTrailingZeros_0f7a4_59 (by decide) ?_
    refine V.iushr (v := (15)) k dJ6_numberOfTrailingZeros_0f7a4_60 (by decide +kernel) ?_
    refine V.istore_n (L' := [some (.int ((15))), some (.int ((13)))]) k dJ6_numberOfTrailingZeros_0f7a4_61 (Nat.le_of_ble_eq_true rfl) rfl ?_
    refine V.iload_n k dJ6_numberOfTrailingZeros_0f7a4_62 rfl ?_
    refine V.iconst (v := (4)) k dJ6_numberOfTrailingZeros_0f7a4_63 (by decide) ?_
    refine V.icmp_le (tgt := 74) k dJ6_numberOfTrailingZeros_0f7a4_64 (by decide) (fun hb => absurd hb (by decide +kernel)) (fun _ => ?_)
    refine V.iinc (x := (13)) (v := (15)) (L' := [some (.int ((15))), some (.int ((15)))]) k dJ6_numberOfTrailingZeros_0f7a4_67 rfl (by decide +kernel) rfl ?_
    refine V.iload_n k dJ6_numberOfTrailingZeros_0f7a4_70 rfl ?_
    refine V.iconst (v := (2)) k dJ6_numberOfTrailingZeros_0f7a4_71 (by decide) ?_
    refine V.iushr (v := (3)) k dJ6_numberOfTrailingZeros_0f7a4_72 (by decide +kernel) ?_
    refine V.istore_n (L' := [some (.int ((3))), some (.int ((15)))]) k dJ6_numberOfTrailingZeros_0f7a4_73 (Nat.le_of_ble_eq_true rfl) rfl ?_
    refine V.iload_n k dJ6_numberOfTrailingZeros_0f7a4_74 rfl ?_
    refine V.iload_n k dJ6_numberOfTrailingZeros_0f7a4_75 rfl ?_
    refine V.iconst (v := (1)) k dJ6_numberOfTrailingZeros_0f7a4_76 (by decide) ?_
    refine V.iushr (v := (1)) k dJ6_numberOfTrailingZeros_0f7a4_77 (by decide +kernel) ?_
    refine V.iadd (v := (16)) k dJ6_numberOfTrailingZeros_0f7a4_78 (by decide +kernel) ?_
    refine V.stk (st' := [.int (nI 16)]) (by decide +kernel) ?_
    exact V.iret k hM dJ6_numberOfTrailingZeros_0f7a4_79 (Nat.le_of_ble_eq_true rfl) (Nat.le_of_ble_eq_true rfl) (rt_ok)
  · refine V.stk (st' := [.int (131071)]) (by decide +kernel) ?_
    refine V.istore_n (L' := [some (.int ((131071))), none]) k dJ6_numberOfTrailingZeros_0f7a4_7 (Nat.le_of_ble_eq_true rfl) rfl ?_
    refine V.iload_n k dJ6_numberOfTrailingZeros_0f7a4_8 rfl ?_
    refine V.if_gt (tgt := 17) k dJ6_numberOfTrailingZeros_0f7a4_9 (by decide) (fun _ => ?_) (fun hb => absurd hb (by decide +kernel))
    refine V.iconst (v := (1)) k dJ6_numberOfTrailingZeros_0f7a4_17 (by decide) ?_
    refine V.istore_n (L' := [some (.int ((131071))), some (.int ((1)))]) k dJ6_numberOfTrailingZeros_0f7a4_18 (Nat.le_of_ble_eq_true rfl) rfl ?_
    refine V.iload_n k dJ6_numberOfTrailingZeros_0f7a4_19 rfl ?_
    refine V.ldcw (v := (65536)) k dJ6_numberOfTrailingZeros_0f7a4_20 (List.mem_of_getElem? (i := 1) rfl) ?_
    refine V.icmp_le (tgt := 34) k dJ6_numberOfTrailingZeros_0f7a4_23 (by decide) (fun hb => absurd hb (by decide +kernel)) (fun _ => ?_)
    refine V.iinc (x := (1)) (v := (17)) (L' := [some (.int ((131071))), some (.int ((17)))]) k dJ6_numberOfTrailingZeros_0f7a4_26 rfl (by decide +kernel) rfl ?_
    refine V.iload_n k dJ6_numberOfTrailingZeros_0f7a4_29 rfl ?_
    refine V.bipush (v := (16)) k dJ6_numberOfTrailingZeros_0f7a4_30 (by decide) ?_
    refine V.iushr (v := (1)) k dJ6_numberOfTrailingZeros_0f7a4_32 (by decide +kernel) ?_
    refine V.istore_n (L' := [some (.int ((1))), some (.int ((17)))]) k dJ6_numberOfTrailingZeros_0f7a4_33 (Nat.le_of_ble_eq_true rfl) rfl ?_
    refine V.iload_n k dJ6_numberOfTrailingZeros_0f7a4_34 rfl ?_
    refine V.sipush (v := (256)) k dJ6_numberOfTrailingZeros_0f7a4_35 (by decide) ?_
    refine V.icmp_le (tgt := 49) k dJ6_numberOfTrailingZeros_0f7a4_38 (by decide) (fun _ => ?_) (fun hb => absurd (by decide +kernel) hb)
    refine V.iload_n k dJ6_numberOfTrailingZeros_0f7a4_49 rfl ?_
    refine V.bipush (v := (16)) k dJ6_numberOfTrailingZeros_0f7a4_50 (by decide) ?_
    refine V.icmp_le (tgt := 62) k dJ6_numberOfTrailingZeros_0f7a4_52 (by decide) (fun _ => ?_) (fun hb => absurd (by decide +kernel) hb)
    refine V.iload_n k dJ6_numberOfTrailingZeros_0f7a4_62 rfl ?_
    refine V.iconst (v := (4)) k dJ6_numberOfTrailingZeros_0f7a4_63 (by decide) ?_
    refine V.icmp_le (tgt := 74) k dJ6_numberOfTrailingZeros_0f7a4_64 (by decide) (fun _ => ?_) (fun hb => absurd (by decide +kernel) hb)
    refine V.iload_n k dJ6_numberOfTrailingZeros_0f7a4_74 rfl ?_
    refine V.iload_n k dJ6_numberOfTrailingZeros_0f7a4_75 rfl ?_
    refine V.iconst (v := (1)) k dJ6_numberOfTrailingZeros_0f7a4_76 (by decide) ?_
    refine V.iushr (v := (0)) k dJ6_numberOfTrailingZeros_0f7a4_77 (by decide +kernel) ?_
    refine V.iadd (v := (17)) k dJ6_numberOfTrailingZeros_0f7a4_78 (by decide +kernel) ?_
    refine V.stk (st' := [.int (nI 17)]) (by decide +kernel) ?_
    exact V.iret k hM dJ6_numberOfTrailingZeros_0f7a4_79 (Nat.le_of_ble_eq_true rfl) (Nat.le_of_ble_eq_true rfl) (rt_ok)
  · refine V.stk (st' := [.int (262143)]) (by decide +kernel) ?_
    refine V.istore_n (L' := [some (.int ((262143))), none]) k dJ6_numberOfTrailingZeros_0f7a4_7 (Nat.le_of_ble_eq_true rfl) rfl ?_
    refine V.iload_n k dJ6_numberOfTrailingZeros_0f7a4_8 rfl ?_
    refine V.if_gt (tgt := 17) k dJ6_numberOfTrailingZeros_0f7a4_9 (by decide) (fun _ => ?_) (fun hb => absurd hb (by decide +kernel))
    refine V.iconst (v := (1)) k dJ6_numberOfTrailingZeros_0f7a4_17 (by decide) ?_
    refine V.istore_n (L' := [some (.int ((262143))), some (.int ((1)))]) k dJ6_numberOfTrailingZeros_0f7a4_18 (Nat.le_of_ble_eq_true rfl) rfl ?_
    refine V.iload_n k dJ6_numberOfTrailingZeros_0f7a4_19 rfl ?_
    refine V.ldcw (v := (65536)) k dJ6_numberOfTrailingZeros_0f7a4_20 (List.mem_of_getElem? (i := 1) rfl) ?_
    refine V.icmp_le (tgt := 34) k dJ6_numberOfTrailingZeros_0f7a4_23 (by decide) (fun hb => absurd hb (by decide +kernel)) (fun _ => ?_)
    refine V.iinc (x := (1)) (v := (17)) (L' := [some (.int ((262143))), some (.int ((17)))]) k dJ6_numberOfTrailingZeros_0f7a4_26 rfl (by decide +kernel) rfl ?_
    refine V.iload_n k dJ6_numberOfTrailingZeros_0f7a4_29 rfl ?_
    refine V.bipush (v := (16)) k dJ6_numberOfTrailingZeros_0f7a4_30 (by decide) ?_
    refine V.iushr (v := (3)) k dJ6_numberOfTrailingZeros_0f7a4_32 (by decide +kernel) ?_
    refine V.istore_n (L' := [some (.int ((3))), some (.int ((17)))]) k dJ6_numberOfTrailingZeros_0f7a4_33 (Nat.le_of_ble_eq_true rfl) rfl ?_
    refine V.iload_n k dJ6_numberOfTrailingZeros_0f7a4_34 rfl ?_
    refine V.sipush (v := (256)) k dJ6_numberOfTrailingZeros_0f7a4_35 (by decide) ?_
    refine V.icmp_le (tgt := 49) k dJ6_numberOfTrailingZeros_0f7a4_38 (by decide) (fun _ => ?_) (fun hb => absurd (by decide +kernel) hb)
    refine V.iload_n k dJ6_numberOfTrailingZeros_0f7a4_49 rfl ?_
    refine V.bipush (v := (16)) k dJ6_numberOfTrailingZeros_0f7a4_50 (by decide) ?_
    refine V.icmp_le (tgt := 62) k dJ6_numberOfTrailingZeros_0f7a4_52 (by decide) (fun _ => ?_) (fun hb => absurd (by decide +kernel) hb)
    refine V.iload_n k dJ6_numberOfTrailingZeros_0f7a4_62 rfl ?_
    refine V.iconst (v := (4)) k dJ6_numberOfTrailingZeros_0f7a4_63 (by decide) ?_
    refine V.icmp_le (tgt := 74) k dJ6_numberOfTrailingZeros_0f7a4_64 (by decide) (fun _ => ?_) (fun hb => absurd (by decide +kernel) hb)
    refine V.iload_n k dJ6_numberOfTrailingZeros_0f7a4_74 rfl ?_
    refine V.iload_n k dJ6_numberOfTrailingZeros_0f7a4_75 rfl ?_
    refine V.iconst (v := (1)) k dJ6_numberOfTrailingZeros_0f7a4_76 (by decide) ?_
    refine V.iushr (v := (1)) k dJ6_numberOfTrailingZeros_0f7a4_77 (by decide +kernel) ?_
    refine V.iadd (v := (18)) k dJ6_numberOfTrailingZeros_0f7a4_78 (by decide +kernel) ?_
    refine V.stk (st' := [.int (nI 18)]) (by decide +kernel) ?_
    exact V.iret k hM dJ6_numberOfTrailingZeros_0f7a4_79 (Nat.le_of_ble_eq_true rfl) (Nat.le_of_ble_eq_true rfl) (rt_ok)
  · refine V.stk (st' := [.int (524287)]) (by decide +kernel) ?_
    refine V.istore_n (L' := [some (.int ((524287))), none]) k dJ6_numberOfTrailingZeros_0f7a4_7 (Nat.le_of_ble_eq_true rfl) rfl ?_
    refine V.iload_n k dJ6_numberOfTrailingZeros_0f7a4_8 rfl ?_
    refine V.if_gt (tgt := 17) k dJ6_numberOfTrailingZeros_0f7a4_9 (by decide) (fun _ => ?_) (fun hb => absurd hb (by decide +kernel))
    refine V.iconst (v := (1)) k dJ6_numberOfTrailingZeros_0f7a4_17 (by decide) ?_
    refine V.istore_n (L' := [some (.int ((524287))), some (.int ((1)))]) k dJ6_numberOfTrailingZeros_0f7a4_18 (Nat.le_of_ble_eq_true rfl) rfl ?_
    refine V.iload_n k dJ6_numberOfTrailingZeros_0f7a4_19 rfl ?_
    refine V.ldcw (v := (65536)) k dJ6_numberOfTrailingZeros_0f7a4_20 (List.mem_of_getElem? (i := 1) rfl) ?_
    refine V.icmp_le (tgt := 34) k dJ6_numberOfTrailingZeros_0f7a4_23 (by decide) (fun hb => absurd hb (by decide +kernel)) (fun _ => ?_)
    refine V.iinc (x := (1)) (v := (17)) (L' := [some (.int ((524287))), some (.int ((17)))]) k dJ6_numberOfTrailingZeros_0f7a4_26 rfl (by decide +kernel) rfl ?_
    refine V.iload_n k dJ6_numberOfTrailingZeros_0f7a4_29 rfl ?_
    refine V.bipush (v := (16)) k dJ6_numberOfTrailingZeros_0f7a4_30 (by decide) ?_
    refine V.iushr (v := (7)) k dJ6_numberOfTrailingZeros_0f7a4_32 (by decide +kernel) ?_
    refine V.istore_n (L' := [some (.int ((7))), some (.int ((17)))]) k dJ6_numberOfTrailingZeros_0f7a4_33 (Nat.le_of_ble_eq_true rfl) rfl ?_
    refine V.iload_n k dJ6_numberOfTrailingZeros_0f7a4_34 rfl ?_
    refine V.sipush (v := (256)) k dJ6_numberOfTrailingZeros_0f7a4_35 (by decide) ?_
    refine V.icmp_le (tgt := 49) k dJ6_numberOfTrailingZeros_0f7a4_38 (by decide) (fun _ => ?_) (fun hb => absurd (by decide +kernel) hb)
    refine V.iload_n k dJ6_numberOfTrailingZeros_0f7a4_49 rfl ?_
    refine V.bipush (v := (16)) k dJ6_numberOfTrailingZeros_0f7a4_50 (by decide) ?_
    refine V.icmp_le (tgt := 62) k dJ6_numberOfTrailingZeros_0f7a4_52 (by decide) (fun _ => ?_) (fun hb => absurd (by decide +kernel) hb)
    refine V.iload_n k dJ6_numberOfTrailingZeros_0f7a4_62 rfl ?_
    refine V.iconst (v := (4)) k dJ6_numberOfTrailingZeros_0f7a4_63 (by decide) ?_
    refine V.icmp_le (tgt := 74) k dJ6_numberOfTrailingZeros_0f7a4_64 (by decide) (fun hb => absurd hb (by decide +kernel)) (fun _ => ?_)
    refine V.iinc (x := (17)) (v := (19)) (L' := [some (.int ((7))), some (.int ((19)))]) k dJ6_numberOfTrailingZeros_0f7a4_67 rfl (by decide +kernel) rfl ?_
    refine V.iload_n k dJ6_numberOfTrailingZeros_0f7a4_70 rfl ?_
    refine V.iconst (v := (2)) k dJ6_numberOfTrailingZeros_0f7a4_71 (by decide) ?_
    refine V.iushr (v := (1)) k dJ6_numberOfTrailingZeros_0f7a4_72 (by decide +kernel) ?_
    refine V.istore_n (L' := [some (.int ((1))), some (.int ((19)))]) k dJ6_numberOfTrailingZeros_0f7a4_73 (Nat.le_of_ble_eq_true rfl) rfl ?_
    refine V.iload_n k dJ6_numberOfTrailingZeros_0f7a4_74 rfl ?_
    refine V.iload_n k dJ6_numberOfTrailingZeros_0f7a4_75 rfl ?_
    refine V.iconst (v := (1)) k dJ6_numberOfTrailingZeros_0f7a4_76 (by decide) ?_
    refine V.iushr (v := (0)) k dJ6_numberOfTrailingZeros_0f7a4_77 (by decide +kernel) ?_
    refine V.iadd (v := (19)) k dJ6_numberOfTrailingZeros_0f7a4_78 (by decide +kernel) ?_
    refine V.stk (st' := [.int (nI 19)]) (by decide +kernel) ?_
    exact V.iret k hM dJ6_numberOfTrailingZeros_0f7a4_79 (Nat.le_of_ble_eq_true rfl) (Nat.le_of_ble_eq_true rfl) (rt_ok)
  · refine V.stk (st' := [.int (1048575)]) (by decide +kernel) ?_
    refine V.istore_n (L' := [some (.int ((1048575))), none]) k dJ6_numberOfTrailingZeros_0f7a4_7 (Nat.le_of_ble_eq_true rfl) rfl ?_
    refine V.iload_n k dJ6_numberOfTrailingZeros_0f7a4_8 rfl ?_
    refine V.if_gt (tgt := 17) k dJ6_numberOfTrailingZeros_0f7a4_9 (by decide) (fun _ => ?_) (fun hb => absurd hb (by decide +kernel))
    refine V.iconst (v := (1)) k dJ6_numberOfTrailingZeros_0f7a4_17 (by decide) ?_
    refine V.istore_n (L' := [some (.int ((1048575))), some (.int ((1)))]) k dJ6_numberOfTrailingZeros_0f7a4_18 (Nat.le_of_ble_eq_true rfl) rfl ?_
    refine V.iload_n k dJ6_numberOfTrailingZeros_0f7a4_19 rfl ?_
    refine V.ldcw (v := (65536)) k dJ6_numberOfTrailingZeros_0f7a4_20 (List.mem_of_getElem? (i := 1) rfl) ?_
    refine V.icmp_le (tgt := 34) k dJ6_numberOfTrailingZeros_0f7a4_23 (by decide) (fun hb => absurd hb (by decide +kernel)) (fun _ => ?_)
    refine V.iinc (x := (1)) (v := (17)) (L' := [some (.int ((1048575))), some (.int ((17)))]) k dJ6_numberOfTrailingZeros_0f7a4_26 rfl (by decide +kernel) rfl ?_
    refine V.iload_n k dJ6_numberOfTrailingZeros_0f7a4_29 rfl ?_
    refine V.bipush (v := (16)) k dJ6_numberOfTrailingZeros_0f7a4_30 (by decide) ?_
    refine V.iushr (v := (15)) k dJ6_numberOfTrailingZeros_0f7a4_32 (by decide +kernel) ?_
    refine V.istore_n (L' := [some (.int ((15))), some (.int ((17)))]) k dJ6_numberOfTrailingZeros_0f7a4_33 (Nat.le_of_ble_eq_true rfl) rfl ?_
    refine V.iload_n k dJ6_numberOfTrailingZeros_0f7a4_34 rfl ?_
    refine V.sipush (v := (256)) k dJ6_numberOfTrailingZeros_0f7a4_35 (by decide) ?_
    refine V.icmp_le (tgt := 49) k dJ6_numberOfTrailingZeros_0f7a4_38 (by decide) (fun _ => ?_) (fun hb => absurd (by decide +kernel) hb)
    refine V.iload_n k dJ6_numberOfTrailingZeros_0f7a4_49 rfl ?_
    refine V.bipush (v := (16)) k dJ6_numberOfTrailingZeros_0f7a4_50 (by decide) ?_
    refine V.icmp_le (tgt := 62) k dJ6_numberOfTrailingZeros_0f7a4_52 (by decide) (fun _ => ?_) (fun hb => absurd (by decide +kernel) hb)
    refine V.iload_n k dJ6_numberOfTrailingZeros_0f7a4_62 rfl ?_
    refine V.iconst (v := (4)) k dJ6_numberOfTrailingZeros_0f7a4_63 (by decide) ?_
    refine V.icmp_le (tgt := 74) k dJ6_numberOfTrailingZeros_0f7a4_64 (by decide) (fun hb => absurd hb (by decide +kernel)) (fun _ => ?_)
    refine V.iinc (x := (17)) (v := (19)) (L' := [some (.int ((15))), some (.int ((19)))]) k dJ6_numberOfTrailingZeros_0f7a4_67 rfl (by decide +kernel) rfl ?_
    refine V.iload_n k dJ6_numberOfTrailingZeros_0f7a4_70 rfl ?_
    refine V.iconst (v := (2)) k dJ6_numberOfTrailingZeros_0f7a4_71 (by decide) ?_
    refine V.iushr (v := (3)) k dJ6_numberOfTrailingZeros_0f7a4_72 (by decide +kernel) ?_
    refine V.istore_n (L' := [some (.int ((3))), some (.int ((19)))]) k dJ6_numberOfTrailingZeros_0f7a4_73 (Nat.le_of_ble_eq_true rfl) rfl ?_
    refine V.iload_n k dJ6_numberOfTrailingZeros_0f7a4_74 rfl ?_
    refine V.iload_n k dJ6_numberOfTrailingZeros_0f7a4_75 rfl ?_
    refine V.iconst (v := (1)) k dJ6_numberOfTrailingZeros_0f7a4_76 (by decide) ?_
    refine V.iushr (v := (1)) k dJ6_numberOfTrailingZeros_0f7a4_77 (by decide +kernel) ?_
    refine V.iadd (v := (20)) k dJ6_numberOfTrailingZeros_0f7a4_78 (by decide +kernel) ?_
    refine V.stk (st' := [.int (nI 20)]) (by decide +kernel) ?_
    exact V.iret k hM dJ6_numberOfTrailingZeros_0f7a4_79 (Nat.le_of_ble_eq_true rfl) (Nat.le_of_ble_eq_true rfl) (rt_ok)
  · refine V.stk (st' := [.int (2097151)]) (by decide +kernel) ?_
    refine V.istore_n (L' := [some (.int ((2097151))), none]) k dJ6_numberOfTrailingZeros_0f7a4_7 (Nat.le_of_ble_eq_true rfl) rfl ?_
    refine V.iload_n k dJ6_numberOfTrailingZeros_0f7a4_8 rfl ?_
    refine V.if_gt (tgt := 17) k dJ6_numberOfTrailingZeros_0f7a4_9 (by decide) (fun _ => ?_) (fun hb => absurd hb (by decide +kernel))
    refine V.iconst (v := (1)) k dJ6_numberOfTrailingZeros_0f7a4_17 (by decide) ?_
    refine V.istore_n (L' := [some (.int ((2097151))), some (.int ((1)))]) k dJ6_numberOfTrailingZeros_0f7a4_18 (Nat.le_of_ble_eq_true rfl) rfl ?_
    refine V.iload_n k dJ6_numberOfTrailingZeros_0f7a4_19 rfl ?_
    refine V.ldcw (v := (65536)) k dJ6_numberOfTrailingZeros_0f7a4_20 (List.mem_of_getElem? (i := 1) rfl) ?_
    refine V.icmp_le (tgt := 34) k dJ6_numberOfTrailingZeros_0f7a4_23 (by decide) (fun hb => absurd hb (by decide +kernel)) (fun _ => ?_)
    refine V.iinc (x := (1)) (v := (17)) (L' := [some (.int ((2097151))), some (.int ((17)))]) k dJ6_numberOfTrailingZeros_0f7a4_26 rfl (by decide +kernel) rfl ?_
    refine V.iload_n k dJ6_numberOfTrailingZeros_0f7a4_29 rfl ?_
    refine V.bipush (v := (16)) k dJ6_numberOfTrailingZeros_0f7a4_30 (by decide) ?_
    refine V.iushr (v := (31)) k dJ6_numberOfTrailingZeros_0f7a4_32 (by decide +kernel) ?_
    refine V.istore_n (L' := [some (.int ((31))), some (.int ((17)))]) k dJ6_numberOfTrailingZeros_0f7a4_33 (Nat.le_of_ble_eq_true rfl) rfl ?_
    refine V.iload_n k dJ6_numberOfTrailingZeros_0f7a4_34 rfl ?_
    refine V.sipush (v := (256)) k dJ6_numberOfTrailingZeros_0f7a4_35 (by decide) ?_
    refine V.icmp_le (tgt := 49) k dJ6_numberOfTrailingZeros_0f7a4_38 (by decide) (fun _ => ?_) (fun hb => absurd (by decide +kernel) hb)
    refine V.iload_n k dJ6_numberOfTrailingZeros_0f7a4_49 rfl ?_
    refine V.bipush (v := (16)) k dJ6_numberOfTrailingZeros_0f7a4_50 (by decide) ?_
    refine V.icmp_le (tgt := 62) k dJ6_numberOfTrailingZeros_0f7a4_52 (by decide) (fun hb => absurd hb (by decide +kernel)) (fun _ => ?_)
    refine V.iinc (x := (17)) (v := (21)) (L' := [some (.int ((31))), some (.int ((21)))]) k dJ6_numberOfTrailingZeros_0f7a4_55 rfl (by decide +kernel) rfl ?_
    refine V.iload_n k dJ6_numberOfTrailingZeros_0f7a4_58 rfl ?_
    refine V.iconst (v := (4)) k dJ6_numberOfTrailingZeros_0f7a4_59 (by decide) ?_
    refine V.iushr (v := (1)) k dJ6_numberOfTrailingZeros_0f7a4_60 (by decide +kernel) ?_
    refine V.istore_n (L' := [some (.int ((1))), some (.int ((21)))]) k dJ6_numberOfTrailingZeros_0f7a4_61 (Nat.le_of_ble_eq_true rfl) rfl ?_
    refine V.iload_n k dJ6_numberOfTrailingZeros_0f7a4_62 rfl ?_
    refine V.iconst (v := (4)) k dJ6_numberOfTrailingZeros_0f7a4_63 (by decide) ?_
    refine V.icmp_le (tgt := 74) k dJ6_numberOfTrailingZeros_0f7a4_64 (by decide) (fun _ => ?_) (fun hb => absurd (by decide +kernel) hb)
    refine V.iload_n k dJ6_numberOfTrailingZeros_0f7a4_74 rfl ?_
    refine V.iload_n k dJ6_numberOfTrailingZeros_0f7a4_75 rfl ?_
    refine V.iconst (v := (1)) k dJ6_numberOfTrailingZeros_0f7a4_76 (by decide) ?_
    refine V.iushr (v := (0)) k dJ6_numberOfTrailingZeros_0f7a4_77 (by decide +kernel) ?_
    refine V.iadd (v := (21)) k dJ6_numberOfTrailingZeros_0f7a4_78 (by decide +kernel) ?_
    refine V.stk (st' := [.int (nI 21)]) (by decide +kernel) ?_
    exact V.iret k hM dJ6_numberOfTrailingZeros_0f7a4_79 (Nat.le_of_ble_eq_true rfl) (Nat.le_of_ble_eq_true rfl) (rt_ok)
  · refine V.stk (st' := [.int (4194303)]) (by decide +kernel) ?_
    refine V.istore_n (L' := [some (.int ((4194303))), none]) k dJ6_numberOfTrailingZeros_0f7a4_7 (Nat.le_of_ble_eq_true rfl) rfl ?_
    refine V.iload_n k dJ6_numberOfTrailingZeros_0f7a4_8 rfl ?_
    refine V.if_gt (tgt := 17) k dJ6_numberOfTrailingZeros_0f7a4_9 (by decide) (fun _ => ?_) (fun hb => absurd hb (by decide +kernel))
    refine V.iconst (v := (1)) k dJ6_numberOfTrailingZeros_0f7a4_17 (by decide) ?_
    refine V.istore_n (L' := [some (.int ((4194303))), some (.int ((1)))]) k dJ6_numberOfTrailingZeros_0f7a4_18 (Nat.le_of_ble_eq_true rfl) rfl ?_
    refine V.iload_n k dJ6_numberOfTrailingZeros_0f7a4_19 rfl ?_
    refine V.ldcw (v := (65536)) k dJ6_numberOfTrailingZeros_0f7a4_20 (List.mem_of_getElem? (i := 1) rfl) ?_
    refine V.icmp_le (tgt := 34) k dJ6_numberOfTrailingZeros_0f7a4_23 (by decide) (fun hb => absurd hb (by decide +kernel)) (fun _ => ?_)
    refine V.iinc (x := (1)) (v := (17)) (L' := [some (.int ((4194303))), some (.int ((17)))]) k dJ6_numberOfTrailingZeros_0f7a4_26 rfl (by decide +kernel) rfl ?_
    refine V.iload_n k dJ6_numberOfTrailingZeros_0f7a4_29 rfl ?_
    refine V.bipush (v := (16)) k dJ6_numberOfTrailingZeros_0f7a4_30 (by decide) ?_
    refine V.iushr (v := (63)) k dJ6_numberOfTrailingZeros_0f7a4_32 (by decide +kernel) ?_
    refine V.istore_n (L' := [some (.int ((63))), some (.int ((17)))]) k dJ6_numberOfTrailingZeros_0f7a4_33 (Nat.le_of_ble_eq_true rfl) rfl ?_
    refine V.iload_n k dJ6_numberOfTrailingZeros_0f7a4_34 rfl ?_
    refine V.sipush (v := (256)) k dJ6_numberOfTrailingZeros_0f7a4_35 (by decide) ?_
    refine V.icmp_le (tgt := 49) k dJ6_numberOfTrailingZeros_0f7a4_38 (by decide) (fun _ => ?_) (fun hb => absurd (by decide +kernel) hb)
    refine V.iload_n k dJ6_numberOfTrailingZeros_0f7a4_49 rfl ?_
    refine V.bipush (v := (16)) k dJ6_numberOfTrailingZeros_0f7a4_50 (by decide) ?_
    refine V.icmp_le (tgt := 62) k dJ6_numberOfTrailingZeros_0f7a4_52 (by decide) (fun hb => absurd hb (by decide +kernel)) (fun _ => ?_)
    refine V.iinc (x := (17)) (v := (21)) (L' := [some (.int ((63))), some (.int ((21)))]) k dJ6_numberOfTrailingZeros_0f7a4_55 rfl (by decide +kernel) rfl ?_
    refine V.iload_n k dJ6_numberOfTrailingZeros_0f7a4_58 rfl ?_
    refine V.iconst (v := (4)) k dJ6_numberOfTrailingZeros_0f7a4_59 (by decide) ?_
    refine V.iushr (v := (3)) k dJ6_numberOfTrailingZeros_0f7a4_60 (by decide +kernel) ?_
    refine V.istore_n (L' := [some (.int ((3))), some (.int ((21)))]) k dJ6_numberOfTrailingZeros_0f7a4_61 (Nat.le_of_ble_eq_true rfl) rfl ?_
    refine V.iload_n k dJ6_numberOfTrailingZeros_0f7a4_62 rfl ?_
    refine V.iconst (v := (4)) k dJ6_numberOfTrailingZeros_0f7a4_63 (by decide) ?_
    refine V.icmp_le (tgt := 74) k dJ6_numberOfTrailingZeros_0f7a4_64 (by decide) (fun _ => ?_) (fun hb => absurd (by decide +kernel) hb)
    refine V.iload_n k dJ6_numberOfTrailingZeros_0f7a4_74 rfl ?_
    refine V.iload_n k dJ6_numberOfTrailingZeros_0f7a4_75 rfl ?_
    refine V.iconst (v := (1)) k dJ6_numberOfTrailingZeros_0f7a4_76 (by decide) ?_
    refine V.iushr (v := (1)) k dJ6_numberOfTrailingZeros_0f7a4_77 (by decide +kernel) ?_
    refine V.iadd (v := (22)) k dJ6_numberOfTrailingZeros_0f7a4_78 (by decide +kernel) ?_
    refine V.stk (st' := [.int (nI 22)]) (by decide +kernel) ?_
    exact V.iret k hM dJ6_numberOfTrailingZeros_0f7a4_79 (Nat.le_of_ble_eq_true rfl) (Nat.le_of_ble_eq_true rfl) (rt_ok)
  · refine V.stk (st' := [.int (8388607)]) (by decide +kernel) ?_
    refine V.istore_n (L' := [some (.int ((8388607))), none]) k dJ6_numberOfTrailingZeros_0f7a4_7 (Nat.le_of_ble_eq_true rfl) rfl ?_
    refine V.iload_n k dJ6_numberOfTrailingZeros_0f7a4_8 rfl ?_
    refine V.if_gt (tgt := 17) k dJ6_numberOfTrailingZeros_0f7a4_9 (by decide) (fun _ => ?_) (fun hb => absurd hb (by decide +kernel))
    refine V.iconst (v := (1)) k dJ6_numberOfTrailingZeros_0f7a4_17 (by decide) ?_
    refine V.istore_n (L' := [some (.int ((8388607))), some (.int ((1)))]) k dJ6_numberOfTrailingZeros_0f7a4_18 (Nat.le_of_ble_eq_true rfl) rfl ?_
    refine V.iload_n k dJ6_numberOfTrailingZeros_0f7a4_19 rfl ?_
    refine V.ldcw (v := (65536)) k dJ6_numberOfTrailingZeros_0f7a4_20 (List.mem_of_getElem? (i := 1) rfl) ?_
    refine V.icmp_le (tgt := 34) k dJ6_numberOfTrailingZeros_0f7a4_23 (by decide) (fun hb => absurd hb (by decide +kernel)) (fun _ => ?_)
    refine V.iinc (x := (1)) (v := (17)) (L' := [some (.int ((8388607))), some (.int ((17)))]) k dJ6_numberOfTrailingZeros_0f7a4_26 rfl (by decide +kernel) rfl ?_
    refine V.iload_n k dJ6_numberOfTrailingZeros_0f7a4_29 rfl ?_
    refine V.bipush (v := (16)) k dJ6_numberOfTrailingZeros_0f7a4_30 (by decide) ?_
    refine V.iushr (v := (127)) k dJ6_numberOfTrailingZeros_0f7a4_32 (by decide +kernel) ?_
    refine V.istore_n (L' := [some (.int ((127))), some (.int ((17)))]) k dJ6_numberOfTrailingZeros_0f7a4_33 (Nat.le_of_ble_eq_true rfl) rfl ?_
    refine V.iload_n k dJ6_numberOfTrailingZeros_0f7a4_34 rfl ?_
    refine V.sipush (v := (256)) k dJ6_numberOfTrailingZeros_0f7a4_35 (by decide) ?_
    refine V.icmp_le (tgt := 49) k dJ6_numberOfTrailingZeros_0f7a4_38 (by decide) (fun _ => ?_) (fun hb => absurd (by decide +kernel) hb)
    refine V.iload_n k dJ6_numberOfTrailingZeros_0f7a4_49 rfl ?_
    refine V.bipush (v := (16)) k dJ6_numberOfTrailingZeros_0f7a4_50 (by decide) ?_
    refine V.icmp_le (tgt := 62) k dJ6_numberOfTrailingZeros_0f7a4_52 (by decide) (fun hb => absurd hb (by decide +kernel)) (fun _ => ?_)
    refine V.iinc (x := (17)) (v := (21)) (L' := [some (.int ((127))), some (.int ((21)))]) k dJ6_numberOfTrailingZeros_0f7a4_55 rfl (by decide +kernel) rfl ?_
    refine V.iload_n k dJ6_numberOfTrailingZeros_0f7a4_58 rfl ?_
    refine V.iconst (v := (4)) k dJ6_numberOfTrailingZeros_0f7a4_59 (by decide) ?_
    refine V.iushr (v := (7)) k dJ6_numberOfTrailingZeros_0f7a4_60 (by decide +kernel) ?_
    refine V.istore_n (L' := [some (.int ((7))), some (.int ((21)))]) k dJ6_numberOfTrailingZeros_0f7a4_61 (Nat.le_of_ble_eq_true rfl) rfl ?_
    refine V.iload_n k dJ6_numberOfTrailingZeros_0f7a4_62 rfl ?_
    refine V.iconst (v := (4)) k dJ6_numberOfTrailingZeros_0f7a4_63 (by decide) ?_
    refine V.icmp_le (tgt := 74) k dJ6_numberOfTrailingZeros_0f7a4_64 (by decide) (fun hb => absurd hb (by decide +kernel)) (fun _ => ?_)
    refine V.iinc (x := (21)) (v := (23)) (L' := [some (.int ((7))), some (.int ((23)))]) k dJ6_numberOfTrailingZeros_0f7a4_67 rfl (by decide +kernel) rfl ?_
    refine V.iload_n k dJ6_numberOfTrailingZeros_0f7a4_70 rfl ?_
    refine V.iconst (v := (2)) k dJ6_numberOfTrailingZeros_0f7a4_71 (by decide) ?_
    refine V.iushr (v := (1)) k dJ6_numberOfTrailingZeros_0f7a4_72 (by decide +kernel) ?_
    refine V.istore_n (L' := [some (.int ((1))), some (.int ((23)))]) k dJ6_numberOfTrailingZeros_0f7a4_73 (Nat.le_of_ble_eq_true rfl) rfl ?_
    refine V.iload_n k dJ6_numberOfTrailingZeros_0f7a4_74 rfl ?_
    refine V.iload_n k dJ6_numberOfTrailingZeros_0f7a4_75 rfl ?_
    refine V.iconst (v := (1)) k dJ6_numberOfTrailingZeros_0f7a4_76 (by decide) ?_
    refine V.iushr (v := (0)) k dJ6_numberOfTrailingZeros_0f7a4_77 (by decide +kernel) ?_
    refine V.iadd (v := (23)) k dJ6_numberOfTrailingZeros_0f7a4_78 (by decide +kernel) ?_
    refine V.stk (st' := [.int (nI 23)]) (by decide +kernel) ?_
    exact V.iret k hM dJ6_numberOfTrailingZeros_0f7a4_79 (Nat.le_of_ble_eq_true rfl) (Nat.le_of_ble_eq_true rfl) (rt_ok)
  · refine V.stk (st' := [.int (16777215)]) (by decide +kernel) ?_
    refine V.istore_n (L' := [some (.int ((16777215))), none]) k dJ6_numberOfTrailingZeros_0f7a4_7 (Nat.le_of_ble_eq_true rfl) rfl ?_
    refine V.iload_n k dJ6_numberOfTrailingZeros_0f7a4_8 rfl ?_
    refine V.if_gt (tgt := 17) k dJ6_numberOfTrailingZeros_0f7a4_9 (by decide) (fun _ => ?_) (fun hb => absurd hb (by decide +kernel))
    refine V.iconst (v := (1)) k dJ6_numberOfTrailingZeros_0f7a4_17 (by decide) ?_
    refine V.istore_n (L' := [some (.int ((16777215))), some (.int ((1)))]) k dJ6_numberOfTrailingZeros_0f7a4_18 (Nat.le_of_ble_eq_true rfl) rfl ?_
    refine V.iload_n k dJ6_numberOfTrailingZeros_0f7a4_19 rfl ?_
    refine V.ldcw (v := (65536)) k dJ6_numberOfTrailingZeros_0f7a4_20 (List.mem_of_getElem? (i := 1) rfl) ?_
    refine V.icmp_le (tgt := 34) k dJ6_numberOfTrailingZeros_0f7a4_23 (by decide) (fun hb => absurd hb (by decide +kernel)) (fun _ => ?_)
    refine V.iinc (x := (1)) (v := (17)) (L' := [some (.int ((16777215))), some (.int ((17)))]) k dJ6_numberOfTrailingZeros_0f7a4_26 rfl (by decide +kernel) rfl ?_
    refine V.iload_n k dJ6_numberOfTrailingZeros_0f7a4_29 rfl ?_
    refine V.bipush (v := (16)) k dJ6_numberOfTrailingZeros_0f7a4_30 (by decide) ?_
    refine V.iushr (v := (255)) k dJ6_numberOfTrailingZeros_0f7a4_32 (by decide +kernel) ?_
    refine V.istore_n (L' := [some (.int ((255))), some (.int ((17)))]) k dJ6_numberOfTrailingZeros_0f7a4_33 (Nat.le_of_ble_eq_true rfl) rfl ?_
    refine V.iload_n k dJ6_numberOfTrailingZeros_0f7a4_34 rfl ?_
    refine V.sipush (v := (256)) k dJ6_numberOfTrailingZeros_0f7a4_35 (by decide) ?_
    refine V.icmp_le (tgt := 49) k dJ6_numberOfTrailingZeros_0f7a4_38 (by decide) (fun _ => ?_) (fun hb => absurd (by decide +kernel) hb)
    refine V.iload_n k dJ6_numberOfTrailingZeros_0f7a4_49 rfl ?_
    refine V.bipush (v := (16)) k dJ6_numberOfTrailingZeros_0f7a4_50 (by decide) ?_
    refine V.icmp_le (tgt := 62) k dJ6_numberOfTrailingZeros_0f7a4_52 (by decide) (fun hb => absurd hb (by decide +kernel)) (fun _ => ?_)
    refine V.iinc (x := (17)) (v := (21)) (L' := [some (.int ((255))), some (.int ((21)))]) k dJ6_numberOfTrailingZeros_0f7a4_55 rfl (by decide +kernel) rfl ?_
    refine V.iload_n k dJ6_numberOfTrailingZeros_0f7a4_58 rfl ?_
    refine V.iconst (v := (4)) k dJ6_numberOfTrailingZeros_0f7a4_59 (by decide) ?_
    refine V.iushr (v := (15)) k dJ6_numberOfTrailingZeros_0f7a4_60 (by decide +kernel) ?_
    refine V.istore_n (L' := [some (.int ((15))), some (.int ((21)))]) k dJ6_numberOfTrailingZeros_0f7a4_61 (Nat.le_of_ble_eq_true rfl) rfl ?_
    refine V.iload_n k dJ6_numberOfTrailingZeros_0f7a4_62 rfl ?_
    refine V.iconst (v := (4)) k dJ6_numberOfTrailingZeros_0f7a4_63 (by decide) ?_
    refine V.icmp_le (tgt := 74) k dJ6_numberOfTrailingZeros_0f7a4_64 (by decide) (fun hb => absurd hb (by decide +kernel)) (fun _ => ?_)
    refine V.iinc (x := (21)) (v := (23)) (L' := [some (.int ((15))), some (.int ((23)))]) k dJ6_numberOfTrailingZeros_0f7a4_67 rfl (by decide +kernel) rfl ?_
    refine V.iload_n k dJ6_numberOfTrailingZeros_0f7a4_70 rfl ?_
    refine V.iconst (v := (2)) k dJ6_numberOfTrailingZeros_0f7a4_71 (by decide) ?_
    refine V.iushr (v := (3)) k dJ6_numberOfTrailingZeros_0f7a4_72 (by decide +kernel) ?_
    refine V.istore_n (L' := [some (.int ((3))), some (.int ((23)))]) k dJ6_numberOfTrailingZeros_0f7a4_73 (Nat.le_of_ble_eq_true rfl) rfl ?_
    refine V.iload_n k dJ6_numberOfTrailingZeros_0f7a4_74 rfl ?_
    refine V.iload_n k dJ6_numberOfTrailingZeros_0f7a4_75 rfl ?_
    refine V.iconst (v := (1)) k dJ6_numberOfTrailingZeros_0f7a4_76 (by decide) ?_
    refine V.iushr (v := (1)) k dJ6_numberOfTrailingZeros_0f7a4_77 (by decide +kernel) ?_
    refine V.iadd (v := (24)) k dJ6_numberOfTrailingZeros_0f7a4_78 (by decide +kernel) ?_
    refine V.stk (st' := [.int (nI 24)]) (by decide +kernel) ?_
    exact V.iret k hM dJ6_numberOfTrailingZeros_0f7a4_79 (Nat.le_of_ble_eq_true rfl) (Nat.le_of_ble_eq_true rfl) (rt_ok)
  · refine V.stk (st' := [.int (33554431)]) (by decide +kernel) ?_
    refine V.istore_n (L' := [some (.int ((33554431))), none]) k dJ6_numberOfTrailingZeros_0f7a4_7 (Nat.le_of_ble_eq_true rfl) rfl ?_
    refine V.iload_n k dJ6_numberOfTrailingZeros_0f7a4_8 rfl ?_
    refine V.if_gt (tgt := 17) k dJ6_numberOfTrailingZeros_0f7a4_9 (by decide) (fun _ => ?_) (fun hb => absurd hb (by decide +kernel))
    refine V.iconst (v := (1)) k dJ6_numberOfTrailingZeros_0f7a4_17 (by decide) ?_
    refine V.istore_n (L' := [some (.int ((33554431))), some (.int ((1)))]) k dJ6_numberOfTrailingZeros_0f7a4_18 (Nat.le_of_ble_eq_true rfl) rfl ?_
    refine V.iload_n k dJ6_numberOfTrailingZeros_0f7a4_19 rfl ?_
    refine V.ldcw (v := (65536)) k dJ6_numberOfTrailingZeros_0f7a4_20 (List.mem_of_getElem? (i := 1) rfl) ?_
    refine V.icmp_le (tgt := 34) k dJ6_numberOfTrailingZeros_0f7a4_23 (by decide) (fun hb => absurd hb (by decide +kernel)) (fun _ => ?_)
    refine V.iinc (x := (1)) (v := (17)) (L' := [some (.int ((33554431))), some (.int ((17)))]) k dJ6_numberOfTrailingZeros_0f7a4_26 rfl (by decide +kernel) rfl ?_
    refine V.iload_n k dJ6_numberOfTrailingZeros_0f7a4_29 rfl ?_
    refine V.bipush (v := (16)) k dJ6_numberOfTrailingZeros_0f7a4_30 (by decide) ?_
    refine V.iushr (v := (511)) k dJ6_numberOfTrailingZeros_0f7a4_32 (by decide +kernel) ?_
    refine V.istore_n (L' := [some (.int ((511))), some (.int ((17)))]) k dJ6_numberOfTrailingZeros_0f7a4_33 (Nat.le_of_ble_eq_true rfl) rfl ?_
    refine V.iload_n k dJ6_numberOfTrailingZeros_0f7a4_34 rfl ?_
    refine V.sipush (v := (256)) k dJ6_numberOfTrailingZeros_0f7a4_35 (by decide) ?_
    refine V.icmp_le (tgt := 49) k dJ6_numberOfTrailingZeros_0f7a4_38 (by decide) (fun hb => absurd hb (by decide +kernel)) (fun _ => ?_)
    refine V.iinc (x := (17)) (v := (25)) (L' := [some (.int ((511))), some (.int ((25)))]) k dJ6_numberOfTrailingZeros_0f7a4_41 rfl (by decide +kernel) rfl ?_
    refine V.iload_n k dJ6_numberOfTrailingZeros_0f7a4_44 rfl ?_
    refine V.bipush (v := (8)) k dJ6_numberOfTrailingZeros_0f7a4_45 (by decide) ?_
    refine V.iushr (v := (1)) k dJ6_numberOfTrailingZeros_0f7a4_47 (by decide +kernel) ?_
    refine V.istore_n (L' := [some (.int ((1))), some (.int ((25)))]) k dJ6_numberOfTrailingZeros_0f7a4_48 (Nat.le_of_ble_eq_true rfl) rfl ?_
    refine V.iload_n k dJ6_numberOfTrailingZeros_0f7a4_49 rfl ?_
    refine V.bipush (v := (16)) k dJ6_numberOfTrailingZeros_0f7a4_50 (by decide) ?_
    refine V.icmp_le (tgt := 62) k dJ6_numberOfTrailingZeros_0f7a4_52 (by decide) (fun _ => ?_) (fun hb => absurd (by decide +kernel) hb)
    refine V.iload_n k dJ6_numberOfTrailingZeros_0f7a4_62 rfl ?_
    refine V.iconst (v := (4)) k dJ6_numberOfTrailingZeros_0f7a4_63 (by decide) ?_
    refine V.icmp_le (tgt := 74) k dJ6_numberOfTrailingZeros_0f7a4_64 (by decide) (fun _ => ?_) (fun hb => absurd (by decide +kernel) hb)
    refine V.iload_n k dJ6_numberOfTrailingZeros_0f7a4_74 rfl ?_
    refine V.iload_n k dJ6_numberOfTrailingZeros_0f7a4_75 rfl ?_
    refine V.iconst (v := (1)) k dJ6_numberOfTrailingZeros_0f7a4_76 (by decide) ?_
    refine V.iushr (v := (0)) k dJ6_numberOfTrailingZeros_0f7a4_77 (by decide +kernel) ?_
    refine V.iadd (v := (25)) k dJ6_numberOfTrailingZeros_0f7a4_78 (by decide +kernel) ?_
    refine V.stk (st' := [.int (nI 25)]) (by decide +kernel) ?_
    exact V.iret k hM dJ6_numberOfTrailingZeros_0f7a4_79 (Nat.le_of_ble_eq_true rfl) (Nat.le_of_ble_eq_true rfl) (rt_ok)
  · refine V.stk (st' := [.int (67108863)]) (by decide +kernel) ?_
    refine V.istore_n (L' := [some (.int ((67108863))), none]) k dJ6_numberOfTrailingZeros_0f7a4_7 (Nat.le_of_ble_eq_true rfl) rfl ?_
    refine V.iload_n k dJ6_numberOfTrailingZeros_0f7a4_8 rfl ?_
    refine V.if_gt (tgt := 17) k dJ6_numberOfTrailingZeros_0f7a4_9 (by decide) (fun _ => ?_) (fun hb => absurd hb (by decide +kernel))
    refine V.iconst (v := (1)) k dJ6_numberOfTrailingZeros_0f7a4_17 (by decide) ?_
    refine V.istore_n (L' := [some (.int ((67108863))), some (.int ((1)))]) k dJ6_numberOfTrailingZeros_0f7a4_18 (Nat.le_of_ble_eq_true rfl) rfl ?_
    refine V.iload_n k dJ6_numberOfTrailingZeros_0f7a4_19 rfl ?_
    refine V.ldcw (v := (65536)) k dJ6_numberOfTrailingZeros_0f7a4_20 (List.mem_of_getElem? (i := 1) rfl) ?_
    refine V.icmp_le (tgt := 34) k dJ6_numberOfTrailingZeros_0f7a4_23 (by decide) (fun hb => absurd hb (by decide +kernel)) (fun _ => ?_)
    refine V.iinc (x := (1)) (v := (17)) (L' := [some (.int ((67108863))), some (.int ((17)))]) k dJ6_numberOfTrailingZeros_0f7a4_26 rfl (by decide +kernel) rfl ?_
    refine V.iload_n k dJ6_numberOfTrailingZeros_0f7a4_29 rfl ?_
    refine V.bipush (v := (16)) k dJ6_numberOfTrailingZeros_0f7a4_30 (by decide) ?_
    refine V.iushr (v := (1023)) k dJ6_numberOfTrailingZeros_0f7a4_32 (by decide +kernel) ?_
    refine V.istore_n (L' := [some (.int ((1023))), some (.int ((17)))]) k dJ6_numberOfTrailingZeros_0f7a4_33 (Nat.le_of_ble_eq_true rfl) rfl ?_
    refine V.iload_n k dJ6_numberOfTrailingZeros_0f7a4_34 rfl ?_
    refine V.sipush (v := (256)) k dJ6_numberOfTrailingZeros_0f7a4_35 (by decide) ?_
    refine V.icmp_le (tgt := 49) k dJ6_numberOfTrailingZeros_0f7a4_38 (by decide) (fun hb => absurd hb (by decide +kernel)) (fun _ => ?_)
    refine V.iinc (x := (17)) (v := (25)) (L' := [some (.int ((1023))), some (.int ((25)))]) k dJ6_numberOfTrailingZeros_0f7a4_41 rfl (by decide +kernel) rfl ?_
    refine V.iload_n k dJ6_numberOfTrailingZeros_0f7a4_44 rfl ?_
    refine V.bipush (v := (8)) k dJ6_numberOfTrailingZeros_0f7a4_45 (by decide) ?_
    refine V.iushr (v := (3)) k dJ6_numberOfTrailingZeros_0f7a4_47 (by decide +kernel) ?_
    refine V.istore_n (L' := [some (.int ((3))), some (.int ((25)))]) k dJ6_numberOfTrailingZeros_0f7a4_48 (Nat.le_of_ble_eq_true rfl) rfl ?_
    refine V.iload_n k dJ6_numberOfTrailingZeros_0f7a4_49 rfl ?_
    refine V.bipush (v := (16)) k dJ6_numberOfTrailingZeros_0f7a4_50 (by decide) ?_
    refine V.icmp_le (tgt := 62) k dJ6_numberOfTrailingZeros_0f7a4_52 (by decide) (fun _ => ?_) (fun hb => absurd (by decide +kernel) hb)
    refine V.iload_n k dJ6_numberOfTrailingZeros_0f7a4_62 rfl ?_
    refine V.iconst (v := (4)) k dJ6_numberOfTrailingZeros_0f7a4_63 (by decide) ?_
    refine V.icmp_le (tgt := 74) k dJ6_numberOfTrailingZeros_0f7a4_64 (by decide) (fun _ => ?_) (fun hb => absurd (by decide +kernel) hb)
    refine V.iload_n k dJ6_numberOfTrailingZeros_0f7a4_74 rfl ?_
    refine V.iload_n k dJ6_numberOfTrailingZeros_0f7a4_75 rfl ?_
    refine V.iconst (v := (1)) k dJ6_numberOfTrailingZeros_0f7a4_76 (by decide) ?_
    refine V.iushr (v := (1)) k dJ6_numberOfTrailingZeros_0f7a4_77 (by decide +kernel) ?_
    refine V.iadd (v := (26)) k dJ6_numberOfTrailingZeros_0f7a4_78 (by decide +kernel) ?_
    refine V.stk (st' := [.int (nI 26)]) (by decide +kernel) ?_
    exact V.iret k hM dJ6_numberOfTrailingZeros_0f7a4_79 (Nat.le_of_ble_eq_true rfl) (Nat.le_of_ble_eq_true rfl) (rt_ok)
  · refine V.stk (st' := [.int (134217727)]) (by decide +kernel) ?_
    refine V.istore_n (L' := [some (.int ((134217727))), none]) k dJ6_numberOfTrailingZeros_0f7a4_7 (Nat.le_of_ble_eq_true rfl) rfl ?_
    refine V.iload_n k dJ6_numberOfTrailingZeros_0f7a4_8 rfl ?_
    refine V.if_gt (tgt := 17) k dJ6_numberOfTrailingZeros_0f7a4_9 (by decide) (fun _ => ?_) (fun hb => absurd hb (by decide +kernel))
    refine V.iconst (v := (1)) k dJ6_numberOfTrailingZeros_0f7a4_17 (by decide) ?_
    refine V.istore_n (L' := [some (.int ((134217727))), some (.int ((1)))]) k dJ6_numberOfTrailingZeros_0f7a4_18 (Nat.le_of_ble_eq_true rfl) rfl ?_
    refine V.iload_n k dJ6_numberOfTrailingZeros_0f7a4_19 rfl ?_
    refine V.ldcw (v := (65536)) k dJ6_numberOfTrailingZeros_0f7a4_20 (List.mem_of_getElem? (i := 1) rfl) ?_
    refine V.icmp_le (tgt := 34) k dJ6_numberOfTrailingZeros_0f7a4_23 (by decide) (fun hb => absurd hb (by decide +kernel)) (fun _ => ?_)
    refine V.iinc (x := (1)) (v := (17)) (L' := [some (.int ((134217727))), some (.int ((17)))]) k dJ6_numberOfTrailingZeros_0f7a4_26 rfl (by decide +kernel) rfl ?_
    refine V.iload_n k dJ6_numberOfTrailingZeros_0f7a4_29 rfl ?_
    refine V.bipush (v := (16)) k dJ6_numberOfTrailingZeros_0f7a4_30 (by decide) ?_
    refine V.iushr (v := (2047)) k dJ6_numberOfTrailingZeros_0f7a4_32 (by decide +kernel) ?_
    refine V.istore_n (L' := [some (.int ((2047))), some (.int ((17)))]) k dJ6_numberOfTrailingZeros_0f7a4_33 (Nat.le_of_ble_eq_true rfl) rfl ?_
    refine V.iload_n k dJ6_numberOfTrailingZeros_0f7a4_34 rfl ?_
    refine V.sipush (v := (256)) k dJ6_numberOfTrailingZeros_0f7a4_35 (by decide) ?_
    refine V.icmp_le (tgt := 49) k dJ6_numberOfTrailingZeros_0f7a4_38 (by decide) (fun hb => absurd hb (by decide +kernel)) (fun _ => ?_)
    refine V.iinc (x := (17)) (v := (25)) (L' := [some (.int ((2047))), some (.int ((25)))]) k dJ6_numberOfTrailingZeros_0f7a4_41 rfl (by decide +kernel) rfl ?_
    refine V.iload_n k dJ6_numberOfTrailingZeros_0f7a4_44 rfl ?_
    refine V.bipush (v := (8)) k dJ6_numberOfTrailingZeros_0f7a4_45 (by decide) ?_
    refine V.iushr (v := (7)) k dJ6_numberOfTrailingZeros_0f7a4_47 (by decide +kernel) ?_
    refine V.istore_n (L' := [some (.int ((7))), some (.int ((25)))]) k dJ6_numberOfTrailingZeros_0f7a4_48 (Nat.le_of_ble_eq_true rfl) rfl ?_
    refine V.iload_n k dJ6_numberOfTrailingZeros_0f7a4_49 rfl ?_
    refine V.bipush (v := (16)) k dJ6_numberOfTrailingZeros_0f7a4_50 (by decide) ?_
    refine V.icmp_le (tgt := 62) k dJ6_numberOfTrailingZeros_0f7a4_52 (by decide) (fun _ => ?_) (fun hb => absurd (by decide +kernel) hb)
    refine V.iload_n k dJ6_numberOfTrailingZeros_0f7a4_62 rfl ?_
    refine V.iconst (v := (4)) k dJ6_numberOfTrailingZeros_0f7a4_63 (by decide) ?_
    refine V.icmp_le (tgt := 74) k dJ6_numberOfTrailingZeros_0f7a4_64 (by decide) (fun hb => absurd hb (by decide +kernel)) (fun _ => ?_)
    refine V.iinc (x := (25)) (v := (27)) (L' := [some (.int ((7))), some (.int ((27)))]) k dJ6_numberOfTrailingZeros_0f7a4_67 rfl (by decide +kernel) rfl ?_
    refine V.iload_n k dJ6_numberOfTrailingZeros_0f7a4_70 rfl ?_
    refine V.iconst (v := (2)) k dJ6_numberOfTrailingZeros_0f7a4_71 (by decide) ?_
    refine V.iushr (v := (1)) k dJ6_numberOfTrailingZeros_0f7a4_72 (by decide +kernel) ?_
    refine V.istore_n (L' := [some (.int ((1))), some (.int ((27)))]) k dJ6_numberOfTrailingZeros_0f7a4_73 (Nat.le_of_ble_eq_true rfl) rfl ?_
    refine V.iload_n k dJ6_numberOfTrailingZeros_0f7a4_74 rfl ?_
    refine V.iload_n k dJ6_numberOfTrailingZeros_0f7a4_75 rfl ?_
    refine V.iconst (v := (1)) k dJ6_numberOfTrailingZeros_0f7a4_76 (by decide) ?_
    refine V.iushr (v := (0)) k dJ6_numberOfTrailingZeros_0f7a4_77 (by decide +kernel) ?_
    refine V.iadd (v := (27)) k dJ6_numberOfTrailingZeros_0f7a4_78 (by decide +kernel) ?_
    refine V.stk (st' := [.int (nI 27)]) (by decide +kernel) ?_
    exact V.iret k hM dJ6_numberOfTrailingZeros_0f7a4_79 (Nat.le_of_ble_eq_true rfl) (Nat.le_of_ble_eq_true rfl) (rt_ok)
  · refine V.stk (st' := [.int (268435455)]) (by decide +kernel) ?_
    refine V.istore_n (L' := [some (.int ((268435455))), none]) k dJ6_numberOfTrailingZeros_0f7a4_7 (Nat.le_of_ble_eq_true rfl) rfl ?_
    refine V.iload_n k dJ6_numberOfTrailingZeros_0f7a4_8 rfl ?_
    refine V.if_gt (tgt := 17) k dJ6_numberOfTrailingZeros_0f7a4_9 (by decide) (fun _ => ?_) (fun hb => absurd hb (by decide +kernel))
    refine V.iconst (v := (1)) k dJ6_numberOfTrailingZeros_0f7a4_17 (by decide) ?_
    refine V.istore_n (L' := [some (.int ((268435455))), some (.int ((1)))]) k dJ6_numberOfTrailingZeros_0f7a4_18 (Nat.le_of_ble_eq_true rfl) rfl ?_
    refine V.iload_n k dJ6_numberOfTrailingZeros_0f7a4_19 rfl ?_
    refine V.ldcw (v := (65536)) k dJ6_numberOfTrailingZeros_0f7a4_20 (List.mem_of_getElem? (i := 1) rfl) ?_
    refine V.icmp_le (tgt := 34) k dJ6_numberOfTrailingZeros_0f7a4_23 (by decide) (fun hb => absurd hb (by decide +kernel)) (fun _ => ?_)
    refine V.iinc (x := (1)) (v := (17)) (L' := [some (.int ((268435455))), some (.int ((17)))]) k dJ6_numberOfTrailingZeros_0f7a4_26 rfl (by decide +kernel) rfl ?_
    refine V.iload_n k dJ6_numberOfTrailingZeros_0f7a4_29 rfl ?_
    refine V.bipush (v := (16)) k dJ6_numberOfTrailingZeros_0f7a4_30 (by decide) ?_
    refine V.iushr (v := (4095)) k dJ6_numberOfTrailingZeros_0f7a4_32 (by decide +kernel) ?_
    refine V.istore_n (L' := [some (.int ((4095))), some (.int ((17)))]) k dJ6_numberOfTrailingZeros_0f7a4_33 (Nat.le_of_ble_eq_true rfl) rfl ?_
    refine V.iload_n k dJ6_numberOfTrailingZeros_0f7a4_34 rfl ?_
    refine V.sipush (v := (256)) k dJ6_numberOfTrailingZeros_0f7a4_35 (by decide) ?_
    refine V.icmp_le (tgt := 49) k dJ6_numberOfTrailingZeros_0f7a4_38 (by decide) (fun hb => absurd hb (by decide +kernel)) (fun _ => ?_)
    refine V.iinc (x := (17)) (v := (25)) (L' := [some (.int ((4095))), some (.int ((25)))]) k dJ6_numberOfTrailingZeros_0f7a4_41 rfl (by decide +kernel) rfl ?_
    refine V.iload_n k dJ6_numberOfTrailingZeros_0f7a4_44 rfl ?_
    refine V.bipush (v := (8)) k dJ6_numberOfTrailingZeros_0f7a4_45 (by decide) ?_
    refine V.iushr (v := (15)) k dJ6_numberOfTrailingZeros_0f7a4_47 (by decide +kernel) ?_
    refine V.istore_n (L' := [some (.int ((15))), some (.int ((25)))]) k dJ6_numberOfTrailingZeros_0f7a4_48 (Nat.le_of_ble_eq_true rfl) rfl ?_
    refine V.iload_n k dJ6_numberOfTrailingZeros_0f7a4_49 rfl ?_
    refine V.bipush (v := (16)) k dJ6_numberOfTrailingZeros_0f7a4_50 (by decide) ?_
    refine V.icmp_le (tgt := 62) k dJ6_numberOfTrailingZeros_0f7a4_52 (by decide) (fun _ => ?_) (fun hb => absurd (by decide +kernel) hb)
    refine V.iload_n k dJ6_numberOfTrailingZeros_0f7a4_62 rfl ?_
    refine V.iconst (v := (4)) k dJ6_numberOfTrailingZeros_0f7a4_63 (by decide) ?_
    refine V.icmp_le (tgt := 74) k dJ6_numberOfTrailingZeros_0f7a4_64 (by decide) (fun hb => absurd hb (by decide +kernel)) (fun _ => ?_)
    refine V.iinc (x := (25)) (v := (27)) (L' := [some (.int ((15))), some (.int ((27)))]) k dJ6_numberOfTrailingZeros_0f7a4_67 rfl (by decide +kernel) rfl ?_
    refine V.iload_n k dJ6_numberOfTrailingZeros_0f7a4_70 rfl ?_
    refine V.iconst (v := (2)) k dJ6_numberOfTrailingZeros_0f7a4_71 (by decide) ?_
    refine V.iushr (v := (3)) k dJ6_numberOfTrailingZeros_0f7a4_72 (by decide +kernel) ?_
    refine V.istore_n (L' := [some (.int ((3))), some (.int ((27)))]) k dJ6_numberOfTrailingZeros_0f7a4_73 (Nat.le_of_ble_eq_true rfl) rfl ?_
    refine V.iload_n k dJ6_numberOfTrailingZeros_0f7a4_74 rfl ?_
    refine V.iload_n k dJ6_numberOfTrailingZeros_0f7a4_75 rfl ?_
    refine V.iconst (v := (1)) k dJ6_numberOfTrailingZeros_0f7a4_76 (by decide) ?_
    refine V.iushr (v := (1)) k dJ6_numberOfTrailingZeros_0f7a4_77 (by decide +kernel) ?_
    refine V.iadd (v := (28)) k dJ6_numberOfTrailingZeros_0f7a4_78 (by decide +kernel) ?_
    refine V.stk (st' := [.int (nI 28)]) (by decide +kernel) ?_
    exact V.iret k hM dJ6_numberOfTrailingZeros_0f7a4_79 (Nat.le_of_ble_eq_true rfl) (Nat.le_of_ble_eq_true rfl) (rt_ok)
  · refine V.stk (st' := [.int (536870911)]) (by decide +kernel) ?_
    refine V.istore_n (L' := [some (.int ((536870911))), none]) k dJ6_numberOfTrailingZeros_0f7a4_7 (Nat.le_of_ble_eq_true rfl) rfl ?_
    refine V.iload_n k dJ6_numberOfTrailingZeros_0f7a4_8 rfl ?_
    refine V.if_gt (tgt := 17) k dJ6_numberOfTrailingZeros_0f7a4_9 (by decide) (fun _ => ?_) (fun hb => absurd hb (by decide +kernel))
    refine V.iconst (v := (1)) k dJ6_numberOfTrailingZeros_0f7a4_17 (by decide) ?_
    refine V.istore_n (L' := [some (.int ((536870911))), some (.int ((1)))]) k dJ6_numberOfTrailingZeros_0f7a4_18 (Nat.le_of_ble_eq_true rfl) rfl ?_
    refine V.iload_n k dJ6_numberOfTrailingZeros_0f7a4_19 rfl ?_
    refine V.ldcw (v := (65536)) k dJ6_numberOfTrailingZeros_0f7a4_20 (List.mem_of_getElem? (i := 1) rfl) ?_
    refine V.icmp_le (tgt := 34) k dJ6_numberOfTrailingZeros_0f7a4_23 (by decide) (fun hb => absurd hb (by decide +kernel)) (fun _ => ?_)
    refine V.iinc (x := (1)) (v := (17)) (L' := [some (.int ((536870911))), some (.int ((17)))]) k dJ6_numberOfTrailingZeros_0f7a4_26 rfl (by decide +kernel) rfl ?_
    refine V.iload_n k dJ6_numberOfTrailingZeros_0f7a4_29 rfl ?_
    refine V.bipush (v := (16)) k dJ6_numberOfTrailingZeros_0f7a4_30 (by decide) ?_
    refine V.iushr (v := (8191)) k dJ6_numberOfTrailingZeros_0f7a4_32 (by decide +kernel) ?_
    refine V.istore_n (L' := [some (.int ((8191))), some (.int ((17)))]) k dJ6_numberOfTrailingZeros_0f7a4_33 (Nat.le_of_ble_eq_true rfl) rfl ?_
    refine V.iload_n k dJ6_numberOfTrailingZeros_0f7a4_34 rfl ?_
    refine V.sipush (v := (256)) k dJ6_numberOfTrailingZeros_0f7a4_35 (by decide) ?_
    refine V.icmp_le (tgt := 49) k dJ6_numberOfTrailingZeros_0f7a4_38 (by decide) (fun hb => absurd hb (by decide +kernel)) (fun _ => ?_)
    refine V.iinc (x := (17)) (v := (25)) (L' := [some (.int ((8191))), some (.int ((25)))]) k dJ6_numberOfTrailingZeros_0f7a4_41 rfl (by decide +kernel) rfl ?_
    refine V.iload_n k dJ6_numberOfTrailingZeros_0f7a4_44 rfl ?_
    refine V.bipush (v := (8)) k dJ6_numberOfTrailingZeros_0f7a4_45 (by decide) ?_
    refine V.iushr (v := (31)) k dJ6_numberOfTrailingZeros_0f7a4_47 (by decide +kernel) ?_
    refine V.istore_n (L' := [some (.int ((31))), some (.int ((25)))]) k dJ6_numberOfTrailingZeros_0f7a4_48 (Nat.le_of_ble_eq_true rfl) rfl ?_
    refine V.iload_n k dJ6_numberOfTrailingZeros_0f7a4_49 rfl ?_
    refine V.bipush (v := (16)) k dJ6_numberOfTrailingZeros_0f7a4_50 (by decide) ?_
    refine V.icmp_le (tgt := 62) k dJ6_numberOfTrailingZeros_0f7a4_52 (by decide) (fun hb => absurd hb (by decide +kernel)) (fun _ => ?_)
    refine V.iinc (x := (25)) (v := (29)) (L' := [some (.int ((31))), some (.int ((29)))]) k dJ6_numberOfTrailingZeros_0f7a4_55 rfl (by decide +kernel) rfl ?_
    refine V.iload_n k dJ6_numberOfTrailingZeros_0f7a4_58 rfl ?_
    refine V.iconst (v := (4)) k dJ6_numberOfTrailingZeros_0f7a4_59 (by decide) ?_
    refine V.iushr (v := (1)) k dJ6_numberOfTrailingZeros_0f7a4_60 (by decide +kernel) ?_
    refine V.istore_n (L' := [some (.int ((1))), some (.int ((29)))]) k dJ6_numberOfTrailingZeros_0f7a4_61 (Nat.le_of_ble_eq_true rfl) rfl ?_
    refine V.iload_n k dJ6_numberOfTrailingZeros_0f7a4_62 rfl ?_
    refine V.iconst (v := (4)) k dJ6_numberOfTrailingZeros_0f7a4_63 (by decide) ?_
    refine V.icmp_le (tgt := 74) k dJ6_numberOfTrailingZeros_0f7a4_64 (by decide) (fun _ => ?_) (fun hb => absurd (by decide +kernel) hb)
    refine V.iload_n k dJ6_numberOfTrailingZeros_0f7a4_74 rfl ?_
    refine V.iload_n k dJ6_numberOfTrailingZeros_0f7a4_75 rfl ?_
    refine V.iconst (v := (1)) k dJ6_numberOfTrailingZeros_0f7a4_76 (by decide) ?_
    refine V.iushr (v := (0)) k dJ6_numberOfTrailingZeros_0f7a4_77 (by decide +kernel) ?_
    refine V.iadd (v := (29)) k dJ6_numberOfTrailingZeros_0f7a4_78 (by decide +kernel) ?_
    refine V.stk (st' := [.int (nI 29)]) (by decide +kernel) ?_
    exact V.iret k hM dJ6_numberOfTrailingZeros_0f7a4_79 (Nat.le_of_ble_eq_true rfl) (Nat.le_of_ble_eq_true rfl) (rt_ok)
  · refine V.stk (st' := [.int (1073741823)]) (by decide +kernel) ?_
    refine V.istore_n (L' := [some (.int ((1073741823))), none]) k dJ6_numberOfTrailingZeros_0f7a4_7 (Nat.le_of_ble_eq_true rfl) rfl ?_
    refine V.iload_n k dJ6_numberOfTrailingZeros_0f7a4_8 rfl ?_
    refine V.if_gt (tgt := 17) k dJ6_numberOfTrailingZeros_0f7a4_9 (by decide) (fun _ => ?_) (fun hb => absurd hb (by decide +kernel))
    refine V.iconst (v := (1)) k dJ6_numberOfTrailingZeros_0f7a4_17 (by decide) ?_
    refine V.istore_n (L' := [some (.int ((1073741823))), some (.int ((1)))]) k dJ6_numberOfTrailingZeros_0f7a4_18 (Nat.le_of_ble_eq_true rfl) rfl ?_
    refine V.iload_n k dJ6_numberOfTrailingZeros_0f7a4_19 rfl ?_
    refine V.ldcw (v := (65536)) k dJ6_numberOfTrailingZeros_0f7a4_20 (List.mem_of_getElem? (i := 1) rfl) ?_
    refine V.icmp_le (tgt := 34) k dJ6_numberOfTrailingZeros_0f7a4_23 (by decide) (fun hb => absurd hb (by decide +kernel)) (fun _ => ?_)
    refine V.iinc (x := (1)) (v := (17)) (L' := [some (.int ((1073741823))), some (.int ((17)))]) k dJ6_numberOfTrailingZeros_0f7a4_26 rfl (by decide +kernel) rfl ?_
    refine V.iload_n k dJ6_numberOfTrailingZeros_0f7a4_29 rfl ?_
    refine V.bipush (v := (16)) k dJ6_numberOfTrailingZeros_0f7a4_30 (by decide) ?_
    refine V.iushr (v := (16383)) k dJ6_numberOfTrailingZeros_0f7a4_32 (by decide +kernel) ?_
    refine V.istore_n (L' := [some (.int ((16383))), some (.int ((17)))]) k dJ6_numberOfTrailingZeros_0f7a4_33 (Nat.le_of_ble_eq_true rfl) rfl ?_
    refine V.iload_n k dJ6_numberOfTrailingZeros_0f7a4_34 rfl ?_
    refine V.sipush (v := (256)) k dJ6_numberOfTrailingZeros_0f7a4_35 (by decide) ?_
    refine V.icmp_le (tgt := 49) k dJ6_numberOfTrailingZeros_0f7a4_38 (by decide) (fun hb => absurd hb (by decide +kernel)) (fun _ => ?_)
    refine V.iinc (x := (17)) (v := (25)) (L' := [some (.int ((16383))), some (.int ((25)))]) k dJ6_numberOfTrailingZeros_0f7a4_41 rfl (by decide +kernel) rfl ?_
    refine V.iload_n k dJ6_numberOfTrailingZeros_0f7a4_44 rfl ?_
    refine V.bipush (v := (8)) k dJ6_numberOfTrailingZeros_0f7a4_45 (by decide) ?_
    refine V.iushr (v := (63)) k dJ6_numberOfTrailingZeros_0f7a4_47 (by decide +kernel) ?_
    refine V.istore_n (L' := [some (.int ((63))), some (.int ((25)))]) k dJ6_numberOfTrailingZeros_0f7a4_48 (Nat.le_of_ble_eq_true rfl) rfl ?_
    refine V.iload_n k dJ6_numberOfTrailingZeros_0f7a4_49 rfl ?_
    refine V.bipush (v := (16)) k dJ6_numberOfTrailingZeros_0f7a4_50 (by decide) ?_
    refine V.icmp_le (tgt := 62) k dJ6_numberOfTrailingZeros_0f7a4_52 (by decide) (fun hb => absurd hb (by decide +kernel)) (fun _ => ?_)
    refine V.iinc (x := (25)) (v := (29)) (L' := [some (.int ((63))), some (.int ((29)))]) k dJ6_numberOfTrailingZeros_0f7a4_55 rfl (by decide +kernel) rfl ?_
    refine V.iload_n k dJ6_numberOfTrailingZeros_0f7a4_58 rfl ?_
    refine V.iconst (v := (4)) k dJ6_numberOfTrailingZeros_0f7a4_59 (by decide) ?_
    refine V.iushr (v := (3)) k dJ6_numberOfTrailingZeros_0f7a4_60 (by decide +kernel) ?_
    refine V.istore_n (L' := [some (.int ((3))), some (.int ((29)))]) k dJ6_numberOfTrailingZeros_0f7a4_61 (Nat.le_of_ble_eq_true rfl) rfl ?_
    refine V.iload_n k dJ6_numberOfTrailingZeros_0f7a4_62 rfl ?_
    refine V.iconst (v := (4)) k dJ6_numberOfTrailingZeros_0f7a4_63 (by decide) ?_
    refine V.icmp_le (tgt := 74) k dJ6_numberOfTrailingZeros_0f7a4_64 (by decide) (fun _ => ?_) (fun hb => absurd (by decide +kernel) hb)
    refine V.iload_n k dJ6_numberOfTrailingZeros_0f7a4_74 rfl ?_
    refine V.iload_n k dJ6_numberOfTrailingZeros_0f7a4_75 rfl ?_
    refine V.iconst (v := (1)) k dJ6_numberOfTrailingZeros_0f7a4_76 (by decide) ?_
    refine V.iushr (v := (1)) k dJ6_numberOfTrailingZeros_0f7a4_77 (by decide +kernel) ?_
    refine V.iadd (v := (30)) k dJ6_numberOfTrailingZeros_0f7a4_78 (by decide +kernel) ?_
    refine V.stk (st' := [.int (nI 30)]) (by decide +kernel) ?_
    exact V.iret k hM dJ6_numberOfTrailingZeros_0f7a4_79 (Nat.le_of_ble_eq_true rfl) (Nat.le_of_ble_eq_true rfl) (rt_ok)
  · refine V.stk (st' := [.int (2147483647)]) (by decide +kernel) ?_
    refine V.istore_n (L' := [some (.int ((2147483647))), none]) k dJ6_numberOfTrailingZeros_0f7a4_7 (Nat.le_of_ble_eq_true rfl) rfl ?_
    refine V.iload_n k dJ6_numberOfTrailingZeros_0f7a4_8 rfl ?_
    refine V.if_gt (tgt := 17) k dJ6_numberOfTrailingZeros_0f7a4_9 (by decide) (fun _ => ?_) (fun hb => absurd hb (by decide +kernel))
    refine V.iconst (v := (1)) k dJ6_numberOfTrailingZeros_0f7a4_17 (by decide) ?_
    refine V.istore_n (L' := [some (.int ((2147483647))), some (.int ((1)))]) k dJ6_numberOfTrailingZeros_0f7a4_18 (Nat.le_of_ble_eq_true rfl) rfl ?_
    refine V.iload_n k dJ6_numberOfTrailingZeros_0f7a4_19 rfl ?_
    refine V.ldcw (v := (65536)) k dJ6_numberOfTrailingZeros_0f7a4_20 (List.mem_of_getElem? (i := 1) rfl) ?_
    refine V.icmp_le (tgt := 34) k dJ6_numberOfTrailingZeros_0f7a4_23 (by decide) (fun hb => absurd hb (by decide +kernel)) (fun _ => ?_)
    refine V.iinc (x := (1)) (v := (17)) (L' := [some (.int ((2147483647))), some (.int ((17)))]) k dJ6_numberOfTrailingZeros_0f7a4_26 rfl (by decide +kernel) rfl ?_
    refine V.iload_n k dJ6_numberOfTrailingZeros_0f7a4_29 rfl ?_
    refine V.bipush (v := (16)) k dJ6_numberOfTrailingZeros_0f7a4_30 (by decide) ?_
    refine V.iushr (v := (32767)) k dJ6_numberOfTrailingZeros_0f7a4_32 (by decide +kernel) ?_
    refine V.istore_n (L' := [some (.int ((32767))), some (.int ((17)))]) k dJ6_numberOfTrailingZeros_0f7a4_33 (Nat.le_of_ble_eq_true rfl) rfl ?_
    refine V.iload_n k dJ6_numberOfTrailingZeros_0f7a4_34 rfl ?_
    refine V.sipush (v := (256)) k dJ6_numberOfTrailingZeros_0f7a4_35 (by decide) ?_
    refine V.icmp_le (tgt := 49) k dJ6_numberOfTrailingZeros_0f7a4_38 (by decide) (fun hb => absurd hb (by decide +kernel)) (fun _ => ?_)
    refine V.iinc (x := (17)) (v := (25)) (L' := [some (.int ((32767))), some (.int ((25)))]) k dJ6_numberOfTrailingZeros_0f7a4_41 rfl (by decide +kernel) rfl ?_
    refine V.iload_n k dJ6_numberOfTrailingZeros_0f7a4_44 rfl ?_
    refine V.bipush (v := (8)) k dJ6_numberOfTrailingZeros_0f7a4_45 (by decide) ?_
    refine V.iushr (v := (127)) k dJ6_numberOfTrailingZeros_0f7a4_47 (by decide +kernel) ?_
    refine V.istore_n (L' := [some (.int ((127))), some (.int ((25)))]) k dJ6_numberOfTrailingZeros_0f7a4_48 (Nat.le_of_ble_eq_true rfl) rfl ?_
    refine V.iload_n k dJ6_numberOfTrailingZeros_0f7a4_49 rfl ?_
    refine V.bipush (v := (16)) k dJ6_numberOfTrailingZeros_0f7a4_50 (by decide) ?_
    refine V.icmp_le (tgt := 62) k dJ6_numberOfTrailingZeros_0f7a4_52 (by decide) (fun hb => absurd hb (by decide +kernel)) (fun _ => ?_)
    refine V.iinc (x := (25)) (v := (29)) (L' := [some (.int ((127))), some (.int ((29)))]) k dJ6_numberOfTrailingZeros_0f7a4_55 rfl (by decide +kernel) rfl ?_
    refine V.iload_n k dJ6_numberOfTrailingZeros_0f7a4_58 rfl ?_
    refine V.iconst (v := (4)) k dJ6_numberOfTrailingZeros_0f7a4_59 (by decide) ?_
    refine V.iushr (v := (7)) k dJ6_numberOfTrailingZeros_0f7a4_60 (by decide +kernel) ?_
    refine V.istore_n (L' := [some (.int ((7))), some (.int ((29)))]) k dJ6_numberOfTrailingZeros_0f7a4_61 (Nat.le_of_ble_eq_true rfl) rfl ?_
    refine V.iload_n k dJ6_numberOfTrailingZeros_0f7a4_62 rfl ?_
    refine V.iconst (v := (4)) k dJ6_numberOfTrailingZeros_0f7a4_63 (by decide) ?_
    refine V.icmp_le (tgt := 74) k dJ6_numberOfTrailingZeros_0f7a4_64 (by decide) (fun hb => absurd hb (by decide +kernel)) (fun _ => ?_)
    refine V.iinc (x := (29)) (v := (31)) (L' := [some (.int ((7))), some (.int ((31)))]) k dJ6_numberOfTrailingZeros_0f7a4_67 rfl (by decide +kernel) rfl ?_
    refine V.iload_n k dJ6_numberOfTrailingZeros_0f7a4_70 rfl ?_
    refine V.iconst (v := (2)) k dJ6_numberOfTrailingZeros_0f7a4_71 (by decide) ?_
    refine V.iushr (v := (1)) k dJ6_numberOfTrailingZeros_0f7a4_72 (by decide +kernel) ?_
    refine V.istore_n (L' := [some (.int ((1))), some (.int ((31)))]) k dJ6_numberOfTrailingZeros_0f7a4_73 (Nat.le_of_ble_eq_true rfl) rfl ?_
    refine V.iload_n k dJ6_numberOfTrailingZeros_0f7a4_74 rfl ?_
    refine V.iload_n k dJ6_numberOfTrailingZeros_0f7a4_75 rfl ?_
    refine V.iconst (v := (1)) k dJ6_numberOfTrailingZeros_0f7a4_76 (by decide) ?_
    refine V.iushr (v := (0)) k dJ6_numberOfTrailingZeros_0f7a4_77 (by decide +kernel) ?_
    refine V.iadd (v := (31)) k dJ6_numberOfTrailingZeros_0f7a4_78 (by decide +kernel) ?_
    refine V.stk (st' := [.int (nI 31)]) (by decide +kernel) ?_
    exact V.iret k hM dJ6_numberOfTrailingZeros_0f7a4_79 (Nat.le_of_ble_eq_true rfl) (Nat.le_of_ble_eq_true rfl) (rt_ok)
  · refine V.stk (st' := [.int (-1)]) (by decide +kernel) ?_
    refine V.istore_n (L' := [some (.int ((-1))), none]) k dJ6_numberOfTrailingZeros_0f7a4_7 (Nat.le_of_ble_eq_true rfl) rfl ?_
    refine V.iload_n k dJ6_numberOfTrailingZeros_0f7a4_8 rfl ?_
    refine V.if_gt (tgt := 17) k dJ6_numberOfTrailingZeros_0f7a4_9 (by decide) (fun hb => absurd hb (by decide +kernel)) (fun _ => ?_)
    refine V.iload_n k dJ6_numberOfTrailingZeros_0f7a4_12 rfl ?_
    refine V.bipush (v := (32)) k dJ6_numberOfTrailingZeros_0f7a4_13 (by decide) ?_
    refine V.iand (v := (32)) k dJ6_numberOfTrailingZeros_0f7a4_15 (by decide +kernel) ?_
    refine V.stk (st' := [.int (nI 32)]) (by decide +kernel) ?_
    exact V.iret k hM dJ6_numberOfTrailingZeros_0f7a4_16 (Nat.le_of_ble_eq_true rfl) (Nat.le_of_ble_eq_true rfl) (rt_ok)
