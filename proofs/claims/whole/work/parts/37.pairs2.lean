theorem pair_size (l : Launch) (w : Wd) {c y sz : Nat} {M G : Pic} {F : Nat → Nat} {K : Nat → Nat → Int32} {N : Nat → Nat → Nat} {Z : Nat → Nat → Bool} (h : INVM c y sz M F K N Z G) (hc : c ≤ 1000) : ∃ (a : Int32) (F' : Nat → Nat) (K' : Nat → Nat → Int32) (N' : Nat → Nat → Nat) (Z' : Nat → Nat → Bool), Ct l w yX2_size wsX2_size ⟨0, 0, 0, 0⟩ [.ref y] G sz (CP (some (.int a)) c y sz M F' K' N' Z') ∧ (∀ y2 sz2 G0, Ct l w yX3_size wsX3_size ⟨0, 0, 0, 0⟩ [.ref y2] (mset y2 F K N Z G0) sz2 (rt (some (.int a)) (mset y2 F' K' N' Z' G0) sz2)) := by
  obtain ⟨A, S, R, DB, T, BI, BD, P, hC, hR⟩ := h
  have hR0 := hR
  have hab := hC.ab
  obtain ⟨⟨r1, r2, r3, r4, r5⟩, ⟨f0, f17, f18, f20, f5, f11, f6, fN⟩, hm, hl, hb, hs⟩ := hR
  obtain ⟨a0, a0b, a1, a5, a7, a8⟩ := id hab
  have e : cdn A (S 0 4) = dwn F (F 5) := by
    unfold cdn dwn
    by_cases h18 : F 18 = 0
    · obtain ⟨l1, l2, -⟩ := hl h18
      rw [if_pos (by omega), if_pos h18, l2]
    · rw [if_neg (by omega), if_neg h18]
  refine ⟨dwn F (F 5), F, K, N, Z, ?_, fun y2 sz2 G0 => c_X3_size l w y2 sz2 F K N Z G0 f0 f18⟩
  rw [← e]
  exact ct_same (c_X2_size l w y sz A S R DB T BI BD P M G hC) hC hR0
theorem pair_depth (l : Launch) (w : Wd) {c y sz : Nat} {M G : Pic} {F : Nat → Nat} {K : Nat → Nat → Int32} {N : Nat → Nat → Nat} {Z : Nat → Nat → Bool} (h : INVM c y sz M F K N Z G) (hc : c ≤ 1000) : ∃ (a : Int32) (F' : Nat → Nat) (K' : Nat → Nat → Int32) (N' : Nat → Nat → Nat) (Z' : Nat → Nat → Bool), Ct l w yX2_depth wsX2_depth ⟨0, 0, 0, 0⟩ [.ref y] G sz (CP (some (.int a)) c y sz M F' K' N' Z') ∧ (∀ y2 sz2 G0, Ct l w yX3_depth wsX3_depth ⟨0, 0, 0, 0⟩ [.ref y2] (mset y2 F K N Z G0) sz2 (rt (some (.int a)) (mset y2 F' K' N' Z' G0) sz2)) := by
  obtain ⟨A, S, R, DB, T, BI, BD, P, hC, hR⟩ := h
  have hR0 := hR
  have hab := hC.ab
  obtain ⟨⟨r1, r2, r3, r4, r5⟩, ⟨f0, f17, f18, f20, f5, f11, f6, fN⟩, hm, hl, hb, hs⟩ := hR
  obtain ⟨a0, a0b, a1, a5, a7, a8⟩ := id hab
  have e : cdn A (S 0 2) = dwn F (F 6) := by
    unfold cdn dwn
    by_cases h18 : F 18 = 0
    · obtain ⟨l1, l2, -⟩ := hl h18
      rw [if_pos (by omega), if_pos h18, l1]
    · rw [if_neg (by omega), if_neg h18]
  refine ⟨dwn F (F 6), F, K, N, Z, ?_, fun y2 sz2 G0 => c_X3_depth l w y2 sz2 F K N Z G0 f0 f18⟩
  rw [← e]
  exact ct_same (c_X2_depth l w y sz A S R DB T BI BD P M G hC) hC hR0
theorem pair_buckets (l : Launch) (w : Wd) {c y sz : Nat} {M G : Pic} {F : Nat → Nat} {K : Nat → Nat → Int32} {N : Nat → Nat → Nat} {Z : Nat → Nat → Bool} (h : INVM c y sz M F K N Z G) (hc : c ≤ 1000) : ∃ (a : Int32) (F' : Nat → Nat) (K' : Nat → Nat → Int32) (N' : Nat → Nat → Nat) (Z' : Nat → Nat → Bool), Ct l w yX2_buckets wsX2_buckets ⟨0, 0, 0, 0⟩ [.ref y] G sz (CP (some (.int a)) c y sz M F' K' N' Z') ∧ (∀ y2 sz2 G0, Ct l w yX3_buckets wsX3_buckets ⟨3, 0, 0, 64⟩ [.ref y2] (mset y2 F K N Z G0) sz2 (rt (some (.int a)) (mset y2 F' K' N' Z' G0) sz2)) := by
  obtain ⟨A, S, R, DB, T, BI, BD, P, hC, hR⟩ := h
  have hR0 := hR
  have hab := hC.ab
  obtain ⟨⟨r1, r2, r3, r4, r5⟩, ⟨f0, f17, f18, f20, f5, f11, f6, fN⟩, hm, hl, hb, hs⟩ := hR
  obtain ⟨a0, a0b, a1, a5, a7, a8⟩ := id hab
  have e : cdn A (S 0 3) = dwn F (cntF (N 0) (2 ^ F 6)) := by
    unfold cdn dwn
    by_cases h18 : F 18 = 0
    · obtain ⟨l1, l2, l3, -⟩ := hl h18
      rw [if_pos (by omega), if_pos h18, l3.2.1]
    · rw [if_neg (by omega), if_neg h18]
  refine ⟨dwn F (cntF (N 0) (2 ^ F 6)), F, K, N, Z, ?_, fun y2 sz2 G0 => c_X3_buckets l w y2 sz2 F K N Z G0 f0 f18 f6 (fun e he => by have := fN e he; omega)⟩
  rw [← e]
  exact ct_same (c_X2_buckets l w y sz A S R DB T BI BD P M G hC) hC hR0
theorem pair_writes (l : Launch) (w : Wd) {c y sz : Nat} {M G : Pic} {F : Nat → Nat} {K : Nat → Nat → Int32} {N : Nat → Nat → Nat} {Z : Nat → Nat → Bool} (h : INVM c y sz M F K N Z G) (hc : c ≤ 1000) : ∃ (a : Int32) (F' : Nat → Nat) (K' : Nat → Nat → Int32) (N' : Nat → Nat → Nat) (Z' : Nat → Nat → Bool), Ct l w yX2_writes wsX2_writes ⟨0, 0, 0, 0⟩ [.ref y] G sz (CP (some (.int a)) c y sz M F' K' N' Z') ∧ (∀ y2 sz2 G0, Ct l w yX3_writes wsX3_writes ⟨0, 0, 0, 0⟩ [.ref y2] (mset y2 F K N Z G0) sz2 (rt (some (.int a)) (mset y2 F' K' N' Z' G0) sz2)) := by
  obtain ⟨A, S, R, DB, T, BI, BD, P, hC, hR⟩ := h
  have hR0 := hR
  have hab := hC.ab
  obtain ⟨⟨r1, r2, r3, r4, r5⟩, ⟨f0, f17, f18, f20, f5, f11, f6, fN⟩, hm, hl, hb, hs⟩ := hR
  obtain ⟨a0, a0b, a1, a5, a7, a8⟩ := id hab
  refine ⟨nI (F 20), F, K, N, Z, ?_, fun y2 sz2 G0 => c_X3_writes l w y2 sz2 F K N Z G0 f0⟩
  rw [← r3]
  exact ct_same (c_X2_writes l w y sz A S R DB T BI BD P M G hC) hC hR0
theorem pair_free (l : Launch) (w : Wd) {c y sz : Nat} {M G : Pic} {F : Nat → Nat} {K : Nat → Nat → Int32} {N : Nat → Nat → Nat} {Z : Nat → Nat → Bool} (h : INVM c y sz M F K N Z G) (hc : c ≤ 1000) : ∃ (a : Int32) (F' : Nat → Nat) (K' : Nat → Nat → Int32) (N' : Nat → Nat → Nat) (Z' : Nat → Nat → Bool), Ct l w yX2_free wsX2_free ⟨2, 0, 0, 41⟩ [.ref y] G sz (CP (some (.int a)) c y sz M F' K' N' Z') ∧ (∀ y2 sz2 G0, Ct l w yX3_free wsX3_free ⟨1, 0, 0, 22⟩ [.ref y2] (mset y2 F K N Z G0) sz2 (rt (some (.int a)) (mset y2 F' K' N' Z' G0) sz2)) := by
  obtain ⟨A, S, R, DB, T, BI, BD, P, hC, hR⟩ := h
  have hR0 := hR
  have hab := hC.ab
  obtain ⟨⟨r1, r2, r3, r4, r5⟩, ⟨f0, f17, f18, f20, f5, f11, f6, fN⟩, hm, hl, hb, hs⟩ := hR
  obtain ⟨a0, a0b, a1, a5, a7, a8⟩ := id hab
  by_cases h18 : F 18 = 0
  · obtain ⟨hw, -, -, hfe, -⟩ := hR0.facts hab h18
    refine ⟨dwn F (cntE (Z 0) (F 1 - 2)), F, K, N, Z, ?_, fun y2 sz2 G0 => c_X3_free l w y2 sz2 F K N Z G0 f0 f18 (by omega) (by omega)⟩
    have e : dwn F (cntE (Z 0) (F 1 - 2)) = nI (A 0 - 2 - S (1 + A 5) 3 - drB (S (1 + A 5) 2)) := by
      unfold dwn
      rw [if_pos h18, hfe]
    rw [e]
    exact ct_same (c_X2_free_up l w y sz A S R DB T BI BD P M G hC hw.2.2.2.1 (by have := hs (1 + A 5) (by omega); omega) (by omega)) hC hR0
  · refine ⟨dwn F (cntE (Z 0) (F 1 - 2)), F, K, N, Z, ?_, fun y2 sz2 G0 => c_X3_free l w y2 sz2 F K N Z G0 f0 f18 (by omega) (by omega)⟩
    have e : dwn F (cntE (Z 0) (F 1 - 2)) = (-2000000003) := by
      unfold dwn
      rw [if_neg h18]
    rw [e]
    exact ct_same (c_X2_free_dn l w y sz A S R DB T BI BD P M G hC (by omega)) hC hR0
theorem pair_get (l : Launch) (w : Wd) {c y sz : Nat} {M G : Pic} {F : Nat → Nat} {K : Nat → Nat → Int32} {N : Nat → Nat → Nat} {Z : Nat → Nat → Bool} (k0 : Int32) (h : INVM c y sz M F K N Z G) (hc : c ≤ 1000) : ∃ (a : Int32) (F' : Nat → Nat) (K' : Nat → Nat → Int32) (N' : Nat → Nat → Nat) (Z' : Nat → Nat → Bool), Ct l w yX2_get wsX2_get ⟨2, 0, 0, 41⟩ [.ref y, .int k0] G sz (CP (some (.int a)) c y sz M F' K' N' Z') ∧ (∀ y2 sz2 G0, Ct l w yX3_get wsX3_get ⟨1, 0, 0, 22⟩ [.ref y2, .int k0] (mset y2 F K N Z G0) sz2 (rt (some (.int a)) (mset y2 F' K' N' Z' G0) sz2)) := by
  obtain ⟨A, S, R, DB, T, BI, BD, P, hC, hR⟩ := h
  have hR0 := hR
  have hab := hC.ab
  obtain ⟨⟨r1, r2, r3, r4, r5⟩, ⟨f0, f17, f18, f20, f5, f11, f6, fN⟩, hm, hl, hb, hs⟩ := hR
  obtain ⟨a0, a0b, a1, a5, a7, a8⟩ := id hab
  refine ⟨ansGet F K k0, F, K, N, Z, ?_, fun y2 sz2 G0 => c_X3_get l w y2 sz2 F K N Z G0 k0 (by omega) f0 f18⟩
  unfold ansGet
  by_cases h18 : F 18 = 0
  · rw [if_pos h18]
    obtain ⟨l1, l2, ⟨hv, hnb, hLH⟩, hnd, -⟩ := hl h18
    clear hl
    have hS2 := hs 0 (by omega)
    have he0 : hx k0 % 2 ^ F 6 < 2 ^ F 6 := Nat.mod_lt _ (p2pos _)
    obtain ⟨q1, q2, q3, q4, q5, q6⟩ := hv.1 _ he0
    have hke := in_key hv k0
    have hfd := bkt_find q6 hke
    have e : (if fp F K k0 < F 5 then K 1 (fp F K k0) else nI 0) = (if fnd (BD 0 (R 0 (hx k0 % 2 ^ S 0 2))) k0 (BI 3 (R 0 (hx k0 % 2 ^ S 0 2))) 0 < BI 3 (R 0 (hx k0 % 2 ^ S 0 2)) then BD 1 (R 0 (hx k0 % 2 ^ S 0 2)) (fnd (BD 0 (R 0 (hx k0 % 2 ^ S 0 2))) k0 (BI 3 (R 0 (hx k0 % 2 ^ S 0 2))) 0) else nI 0) := by
      rw [l1]
      unfold fp
      by_cases hf : fnd (K 0) k0 (F 5) 0 < F 5
      · have hbf := hfd.mpr hf
        rw [if_pos hf, if_pos hbf, bkt_val q6 hnd hbf]
      · rw [if_neg hf, if_neg (fun z => hf (hfd.mp z))]
    rw [e]
    exact ct_same (c_X2_get_up l w y sz A S R DB T BI BD P M G hC k0 (by omega) hS2 (by rw [l1]; exact q1) (by rw [l1]; exact q5)) hC hR0
  · rw [if_neg h18]
    exact ct_same (c_X2_get_dn l w y sz A S R DB T BI BD P M G hC k0 (by omega)) hC hR0
theorem pair_has (l : Launch) (w : Wd) {c y sz : Nat} {M G : Pic} {F : Nat → Nat} {K : Nat → Nat → Int32} {N : Nat → Nat → Nat} {Z : Nat → Nat → Bool} (k0 : Int32) (h : INVM c y sz M F K N Z G) (hc : c ≤ 1000) : ∃ (a : Int32) (F' : Nat → Nat) (K' : Nat → Nat → Int32) (N' : Nat → Nat → Nat) (Z' : Nat → Nat → Bool), Ct l w yX2_has wsX2_has ⟨2, 0, 0, 41⟩ [.ref y, .int k0] G sz (CP (some (.int a)) c y sz M F' K' N' Z') ∧ (∀ y2 sz2 G0, Ct l w yX3_has wsX3_has ⟨1, 0, 0, 22⟩ [.ref y2, .int k0] (mset y2 F K N Z G0) sz2 (rt (some (.int a)) (mset y2 F' K' N' Z' G0) sz2)) := by
  obtain ⟨A, S, R, DB, T, BI, BD, P, hC, hR⟩ := h
  have hR0 := hR
  have hab := hC.ab
  obtain ⟨⟨r1, r2, r3, r4, r5⟩, ⟨f0, f17, f18, f20, f5, f11, f6, fN⟩, hm, hl, hb, hs⟩ := hR
  obtain ⟨a0, a0b, a1, a5, a7, a8⟩ := id hab
  refine ⟨bI (ansHas F K k0), F, K, N, Z, ?_, fun y2 sz2 G0 => c_X3_has l w y2 sz2 F K N Z G0 k0 (by omega) f0 f18⟩
  unfold ansHas
  by_cases h18 : F 18 = 0
  ·
    obtain ⟨l1, l2, ⟨hv, hnb, hLH⟩, hnd, -⟩ := hl h18
    clear hl
    have hS2 := hs 0 (by omega)
    have he0 : hx k0 % 2 ^ F 6 < 2 ^ F 6 := Nat.mod_lt _ (p2pos _)
    obtain ⟨q1, q2, q3, q4, q5, q6⟩ := hv.1 _ he0
    have hke := in_key hv k0
    have hfd := bkt_find q6 hke
    have e : decide (F 18 = 0 ∧ fp F K k0 < F 5) = decide (fnd (BD 0 (R 0 (hx k0 % 2 ^ S 0 2))) k0 (BI 3 (R 0 (hx k0 % 2 ^ S 0 2))) 0 < BI 3 (R 0 (hx k0 % 2 ^ S 0 2))) := by
      rw [l1]
      unfold fp
      by_cases hf : fnd (K 0) k0 (F 5) 0 < F 5
      · rw [decide_eq_true (hfd.mpr hf), decide_eq_true ⟨h18, hf⟩]
      · rw [decide_eq_false (fun z => hf (hfd.mp z)), decide_eq_false (fun z => hf z.2)]
    rw [e]
    exact ct_same (c_X2_has_up l w y sz A S R DB T BI BD P M G hC k0 (by omega) hS2 (by rw [l1]; exact q1) (by rw [l1]; exact q5)) hC hR0
  · have e : decide (F 18 = 0 ∧ fp F K k0 < F 5) = false := decide_eq_false (fun z => h18 z.1)
    rw [e]
    exact ct_same (c_X2_has_dn l w y sz A S R DB T BI BD P M G hC k0 (by omega)) hC hR0
theorem pair_bucket (l : Launch) (w : Wd) {c y sz : Nat} {M G : Pic} {F : Nat → Nat} {K : Nat → Nat → Int32} {N : Nat → Nat → Nat} {Z : Nat → Nat → Bool} (k0 wh : Int32) (h : INVM c y sz M F K N Z G) (hc : c ≤ 1000) : ∃ (a : Int32) (F' : Nat → Nat) (K' : Nat → Nat → Int32) (N' : Nat → Nat → Nat) (Z' : Nat → Nat → Bool), Ct l w yX2_bucket wsX2_bucket ⟨2, 0, 0, 41⟩ [.ref y, .int k0, .int wh] G sz (CP (some (.int a)) c y sz M F' K' N' Z') ∧ (∀ y2 sz2 G0, Ct l w yX3_bucket wsX3_bucket ⟨2, 0, 0, 45⟩ [.ref y2, .int k0, .int wh] (mset y2 F K N Z G0) sz2 (rt (some (.int a)) (mset y2 F' K' N' Z' G0) sz2)) := by
  obtain ⟨A, S, R, DB, T, BI, BD, P, hC, hR⟩ := h
  have hR0 := hR
  have hab := hC.ab
  obtain ⟨⟨r1, r2, r3, r4, r5⟩, ⟨f0, f17, f18, f20, f5, f11, f6, fN⟩, hm, hl, hb, hs⟩ := hR
  obtain ⟨a0, a0b, a1, a5, a7, a8⟩ := id hab
  have hlx : N 0 (hx k0 % 2 ^ F 6) ≤ 30 := by have := fN _ (Nat.mod_lt (hx k0) (p2pos (F 6))); omega
  refine ⟨ansBucket F K N k0 wh, F, K, N, Z, ?_, fun y2 sz2 G0 => c_X3_bucket l w y2 sz2 F K N Z G0 k0 wh (by omega) f6 hlx f0 f18⟩
  unfold ansBucket
  by_cases h18 : F 18 = 0
  · rw [if_pos h18]
    obtain ⟨l1, l2, ⟨hv, hnb, hLH⟩, hnd, -⟩ := hl h18
    clear hl
    have hS2 := hs 0 (by omega)
    have he0 : hx k0 % 2 ^ F 6 < 2 ^ F 6 := Nat.mod_lt _ (p2pos _)
    obtain ⟨q1, q2, q3, q4, q5, q6⟩ := hv.1 _ he0
    have hke := in_key hv k0
    have hfd := bkt_find q6 hke
    have hce := cnt_ent hv he0
    rw [hce, ← q3, ← q4, ← l1]
    exact ct_same (c_X2_bucket_up l w y sz A S R DB T BI BD P M G hC k0 wh (by omega) hS2 (by rw [l1]; exact q1) (by rw [l1]; exact q5)) hC hR0
  · rw [if_neg h18]
    exact ct_same (c_X2_bucket_dn l w y sz A S R DB T BI BD P M G hC k0 wh (by omega)) hC hR0
theorem pair_sync (l : Launch) (w : Wd) {c y sz : Nat} {M G : Pic} {F : Nat → Nat} {K : Nat → Nat → Int32} {N : Nat → Nat → Nat} {Z : Nat → Nat → Bool} (h : INVM c y sz M F K N Z G) (hc : c ≤ 1000) : ∃ (a : Int32) (F' : Nat → Nat) (K' : Nat → Nat → Int32) (N' : Nat → Nat → Nat) (Z' : Nat → Nat → Bool), Ct l w yX2_sync wsX2_sync ⟨4, 0, 0, 83⟩ [.ref y] G sz (CP (some (.int a)) c y sz M F' K' N' Z') ∧ (∀ y2 sz2 G0, Ct l w yX3_sync wsX3_sync ⟨4, 0, 0, 87⟩ [.ref y2] (mset y2 F K N Z G0) sz2 (rt (some (.int a)) (mset y2 F' K' N' Z' G0) sz2)) := by
  obtain ⟨A, S, R, DB, T, BI, BD, P, hC, hR⟩ := h
  have hR0 := hR
  have hab := hC.ab
  obtain ⟨⟨r1, r2, r3, r4, r5⟩, ⟨f0, f17, f18, f20, f5, f11, f6, fN⟩, hm, hl, hb, hs⟩ := hR
  obtain ⟨a0, a0b, a1, a5, a7, a8⟩ := id hab
  by_cases h18 : F 18 = 0
  · obtain ⟨a, F', K', N', Z', h1, h2⟩ := pair_wc l w y hab hR0 h18 hc
    exact ⟨a, F', K', N', Z', c_X2_sync_up l w y sz A S R DB T BI BD P M G hC (by omega) _ (h1 T sz M G hC), fun y2 sz2 G0 => c_X3_sync l w y2 sz2 F K N Z G0 f0 f18 h18 a _ (h2 y2 sz2 G0)⟩
  · exact ⟨-2000000003, F, K, N, Z, ct_same (c_X2_sync_dn l w y sz A S R DB T BI BD P M G hC (by omega)) hC hR0, fun y2 sz2 G0 => c_X3_sync_dn l w y2 sz2 F K N Z G0 f0 f18 (by omega)⟩
theorem pair_format (l : Launch) (w : Wd) {c y sz : Nat} {M G : Pic} {F : Nat → Nat} {K : Nat → Nat → Int32} {N : Nat → Nat → Nat} {Z : Nat → Nat → Bool} (h : INVM c y sz M F K N Z G) (hc : c ≤ 1000) : ∃ (a : Int32) (F' : Nat → Nat) (K' : Nat → Nat → Int32) (N' : Nat → Nat → Nat) (Z' : Nat → Nat → Bool), Ct l w yX2_format wsX2_format ⟨4, 3, 35, 83⟩ [.ref y] G sz (CP (some (.int a)) c y sz M F' K' N' Z') ∧ (∀ y2 sz2 G0, Ct l w yX3_format wsX3_format ⟨4, 0, 0, 87⟩ [.ref y2] (mset y2 F K N Z G0) sz2 (rt (some (.int a)) (mset y2 F' K' N' Z' G0) sz2)) := by
  obtain ⟨A, S, R, DB, T, BI, BD, P, hC, hR⟩ := h
  have hR0 := hR
  have hab := hC.ab
  obtain ⟨⟨r1, r2, r3, r4, r5⟩, ⟨f0, f17, f18, f20, f5, f11, f6, fN⟩, hm, hl, hb, hs⟩ := hR
  obtain ⟨a0, a0b, a1, a5, a7, a8⟩ := id hab
  by_cases h18 : F 18 = 0
  · have hwc : RR (c + 1) A (va_up S 0 (s3 0 1 0)) (va_up R 0 (va_up (R 0) 0 sz)) DB (setI BI sz 0 0 0) (setD BD sz (fun _ => 0) (fun _ => 0)) (fun q => P q ∨ q = sz) (fmF F) K (fmN N) Z := by
      have hfm : ∀ i, i ≠ 5 → i ≠ 6 → i ≠ 17 → fmF F i = F i := fun i h5 h6 h17 => by
        unfold fmF
        rw [va_up_ne _ _ h17, va_up_ne _ _ h6, va_up_ne _ _ h5]
      have si := @setI_self BI sz 0 0 0
      refine hR0.live (d := 0) (n := 0) (nb := 1) hab h18 hfm ⟨rfl, rfl⟩ ⟨rfl, rfl⟩ rfl rfl (by omega) (by omega) ⟨⟨fun e he => ?_, fun e e' he he' => ?_⟩, ?_, ⟨fun e he hz => ?_, fun e e' he he' hq hz => ?_⟩⟩ (fun i j hi => absurd hi (by omega)) rfl ⟨0, by omega, rfl⟩ (OF.of fun q hq => ⟨Or.inl hq, fun j => ?_⟩) (setI4 hb (by omega))
      · have he1 : e = 0 := by simpa using he
        subst he1
        rw [va_up_self, si.1, si.2.1, si.2.2]
        exact ⟨Or.inr rfl, Nat.le_refl _, rfl, rfl, by omega, List.Perm.refl _⟩
      · have he1 : e = 0 := by simpa using he
        have he2 : e' = 0 := by simpa using he'
        subst he1
        subst he2
        exact ⟨fun _ => rfl, fun _ => rfl⟩
      · show 1 = cntF _ (0 + 1)
        rw [cntF, if_pos (Nat.zero_mod _)]
        rfl
      · have he1 : e = 0 := by simpa using he
        subst he1
        exact absurd rfl hz
      · have he1 : e = 0 := by simpa using he
        subst he1
        exact absurd rfl hz
      · have := hC.at hq
        rw [setI_ne (by omega), setD_ne (by omega)]
        exact ⟨rfl, rfl⟩
    have hwc2 : RR c A (va_up S 0 (s3 0 1 0)) (va_up R 0 (va_up (R 0) 0 sz)) DB (setI BI sz 0 0 0) (setD BD sz (fun _ => 0) (fun _ => 0)) (fun q => P q ∨ q = sz) (fmF F) K (fmN N) Z := by
      obtain ⟨t1, ⟨g0, g17, g18, g20, g5, g11, g6, gN⟩, t3⟩ := hwc
      have e20 : fmF F 20 = F 20 := rfl
      have e5 : fmF F 5 = 0 := rfl
      have e11 : fmF F 11 = F 11 := rfl
      exact ⟨t1, ⟨g0, g17, g18, by omega, by omega, by omega, g6, gN⟩, t3⟩
    obtain ⟨a, F', K', N', Z', h1, h2⟩ := pair_wc l w y hab hwc2 (by show F 18 = 0; exact h18) hc
    refine ⟨a, F', K', N', Z', c_X2_format_up l w y sz A S R DB T BI BD P M G hC (by omega) (hs 0 (by omega)) _ (fun G1 hC1 => Ct.wk (h1 T (sz + 3) M G1 hC1) ?_), fun y2 sz2 G0 => c_X3_format l w y2 sz2 F K N Z G0 f0 f18 h18 a _ (h2 y2 sz2 G0)⟩
    rintro v G' sz' ⟨hx1, e1, e2, e3⟩
    exact ⟨hx1, e1, by omega, e3⟩
  · exact ⟨-2000000003, F, K, N, Z, ct_same (c_X2_format_dn l w y sz A S R DB T BI BD P M G hC (by omega)) hC hR0, fun y2 sz2 G0 => c_X3_format_dn l w y2 sz2 F K N Z G0 f0 f18 (by omega)⟩
theorem pair_recover (l : Launch) (w : Wd) {c y sz : Nat} {M G : Pic} {F : Nat → Nat} {K : Nat → Nat → Int32} {N : Nat → Nat → Nat} {Z : Nat → Nat → Bool} (h : INVM c y sz M F K N Z G) (hc : c ≤ 1000) : ∃ (a : Int32) (F' : Nat → Nat) (K' : Nat → Nat → Int32) (N' : Nat → Nat → Nat) (Z' : Nat → Nat → Bool), Ct l w yX2_recover wsX2_recover ⟨2, 0, 0, 42⟩ [.ref y] G sz (CP (some (.int a)) c y sz M F' K' N' Z') ∧ (∀ y2 sz2 G0, Ct l w yX3_recover wsX3_recover ⟨0, 0, 0, 0⟩ [.ref y2] (mset y2 F K N Z G0) sz2 (rt (some (.int a)) (mset y2 F' K' N' Z' G0) sz2)) := by
  obtain ⟨A, S, R, DB, T, BI, BD, P, hC, hR⟩ := h
  have hR0 := hR
  have hab := hC.ab
  obtain ⟨⟨r1, r2, r3, r4, r5⟩, ⟨f0, f17, f18, f20, f5, f11, f6, fN⟩, hm, hl, hb, hs⟩ := hR
  obtain ⟨a0, a0b, a1, a5, a7, a8⟩ := id hab
  obtain ⟨⟨m1, m2, m3, m4, m5⟩, m6, m7, m8, m9, m10⟩ := id hm
  have hm12 := hs (1 + A 5) (by omega)
  have hp8 : 2 ^ F 12 ≤ 256 := p2le (by omega)
  have s5 : rcF F 5 = F 11 := rfl
  have s6 : rcF F 6 = F 12 := rfl
  have s17 : rcF F 17 = 0 := rfl
  have s18 : rcF F 18 = 0 := rfl
  have s19 : rcF F 19 = 0 := rfl
  have sj : ∀ i, i ≠ 18 → i ≠ 19 → i ≠ 17 → i ≠ 5 → i ≠ 6 → rcF F i = F i := fun i h1 h2 h3 h4 h5 => by
    unfold rcF
    rw [va_up_ne _ _ h5, va_up_ne _ _ h4, va_up_ne _ _ h3, va_up_ne _ _ h2, va_up_ne _ _ h1]
  have s0 := sj 0 (by omega) (by omega) (by omega) (by omega) (by omega)
  have s1 := sj 1 (by omega) (by omega) (by omega) (by omega) (by omega)
  have s2 := sj 2 (by omega) (by omega) (by omega) (by omega) (by omega)
  have s11 := sj 11 (by omega) (by omega) (by omega) (by omega) (by omega)
  have s12 := sj 12 (by omega) (by omega) (by omega) (by omega) (by omega)
  have s20 := sj 20 (by omega) (by omega) (by omega) (by omega) (by omega)
  refine ⟨nI 0, rcF F, rcK K (F 11), rcN N 256, Z, Ct.wk (c_X2_recover l w y sz A S R DB T BI BD P M G hC (hs 0 (by omega)) hm12 (fun e he => (m4.1 e (by rw [← m1]; exact he)).1)) ?_, fun y2 sz2 G0 => c_X3_recover l w y2 sz2 F K N Z G0 f0 (by omega)⟩
  rintro v G' sz' ⟨rfl, rfl, hC1⟩
  refine ⟨rfl, Nat.le_refl _, _, _, _, _, T, BI, BD, P, hC1, ?_⟩
  have hL2 : ∀ e, e < 2 ^ F 12 → rcN N 256 0 e = N 2 e := fun e he => by
    show cpT (N 2) (N 0) 256 e = N 2 e
    unfold cpT
    rw [if_pos (by omega)]
  have hH2 : ∀ e, e < 2 ^ F 12 → rcN N 256 1 e = N 3 e := fun e he => by
    show cpT (N 3) (N 1) 256 e = N 3 e
    unfold cpT
    rw [if_pos (by omega)]
  have hRc : ∀ e, e < 2 ^ F 12 → va_up R 0 (cpT (R (1 + A 5)) (R 0) (2 ^ S (1 + A 5) 2)) 0 e = R (1 + A 5) e := fun e he => by
    rw [va_up_self]
    unfold cpT
    rw [if_pos (by rw [m1]; exact he)]
  have x5 : va_up (va_up A 8 0) 7 0 5 = A 5 := rfl
  have x0 : va_up (va_up A 8 0) 7 0 0 = A 0 := rfl
  have x1 : va_up (va_up A 8 0) 7 0 1 = A 1 := rfl
  have x6 : va_up (va_up A 8 0) 7 0 6 = A 6 := rfl
  have x7 : va_up (va_up A 8 0) 7 0 7 = 0 := rfl
  have x8 : va_up (va_up A 8 0) 7 0 8 = 0 := rfl
  clear hl
  refine ⟨⟨by omega, by omega, by omega, by omega, by omega⟩, ⟨by omega, by omega, by omega, by omega, by omega, by omega, by omega, fun e he => ?_⟩, ?_, fun _ => ⟨?_, ?_, ⟨?_, ?_, ⟨fun e he hz => ?_, fun e e' he he' hq hz => ?_⟩⟩, ?_, ?_⟩, hb, fun j hj => ?_⟩
  · rw [s6] at he
    rw [hL2 e he]
    have := (m4.1 e he).2.1
    omega
  · rw [x5, s1, s11, s12]
    exact hm.frame (va_up_ne _ _ (by omega)) (va_up_ne _ _ (by omega)) (va_up_ne _ _ (by omega)) OF.rf
  · rw [va_up_self, s6]; exact m1
  · rw [va_up_self, s5]; exact m3
  · rw [s6, s5]
    refine m4.frame hRc hL2 hH2 (fun e he j => ⟨rfl, rfl⟩) (fun q hq => hq) (kvl_congr fun i hi => ?_)
    show cpT (K 2) (K 0) (F 11) i = K 2 i ∧ cpT (K 3) (K 1) (F 11) i = K 3 i
    unfold cpT
    rw [if_pos hi, if_pos hi]
    exact ⟨rfl, rfl⟩
  · rw [va_up_self, s6]
    show S (1 + A 5) 3 = _
    rw [m2]
    exact cntF_congr fun j hj => by rw [hL2 j hj]
  · rw [s6] at he
    rw [hH2 e he, s1]
    exact ⟨(m6 e he).1, (m6 e he).2, (m8 _ (m6 e he).1 (m6 e he).2).mpr (Or.inl ⟨e, he, rfl⟩)⟩
  · rw [s6] at he he'
    rw [hH2 e he, hH2 e' he'] at hq
    rw [hRc e he, hRc e' he']
    exact m7 e e' he he' hq
  · rw [s5]
    intro i j hi hj hq
    have e1 : ∀ i, i < F 11 → rcK K (F 11) 0 i = K 2 i := fun i hi => by
      show cpT (K 2) (K 0) (F 11) i = K 2 i
      unfold cpT
      rw [if_pos hi]
    rw [e1 i hi, e1 j hj] at hq
    exact m5 i j hi hj hq
  · rw [s17, s6]
    constructor
    · intro q; omega
    · rintro ⟨e, he, hq⟩
      rw [hH2 e he] at hq
      have := (m6 e he).1
      omega
  · rw [x1]
    by_cases hj0 : j = 0
    · subst hj0
      rw [va_up_self]
      exact hm12
    · rw [va_up_ne _ _ hj0]; exact hs j hj
theorem tn_pos_lt {n : Int32} (h : ¬ n < 1) : tn n < 2 ^ 31 := by
  have h2 := Int32.le_iff_toInt_le.mp (Int32.not_lt.mp h)
  have z1 : (1 : Int32).toInt = 1 := by decide +kernel
  have h3 : n.toInt = n.toBitVec.toInt := rfl
  rw [z1, h3, BitVec.toInt_eq_toNat_cond] at h2
  unfold tn
  have := n.toBitVec.isLt
  split at h2 <;> omega
theorem pair_crashAfter (l : Launch) (w : Wd) {c y sz : Nat} {M G : Pic} {F : Nat → Nat} {K : Nat → Nat → Int32} {N : Nat → Nat → Nat} {Z : Nat → Nat → Bool} (n0 : Int32) (h : INVM c y sz M F K N Z G) (hc : c ≤ 1000) : ∃ (F' : Nat → Nat) (K' : Nat → Nat → Int32) (N' : Nat → Nat → Nat) (Z' : Nat → Nat → Bool), Ct l w yX2_crashAfter wsX2_crashAfter ⟨1, 0, 0, 20⟩ [.ref y, .int n0] G sz (CP none c y sz M F' K' N' Z') ∧ (∀ y2 sz2 G0, Ct l w yX3_crashAfter wsX3_crashAfter ⟨0, 0, 0, 0⟩ [.ref y2, .int n0] (mset y2 F K N Z G0) sz2 (rt none (mset y2 F' K' N' Z' G0) sz2)) := by
  obtain ⟨A, S, R, DB, T, BI, BD, P, hC, hR⟩ := h
  have hab := hC.ab
  have hcr : crN F n0 < 2 ^ 31 := by
    unfold crN
    have h19 : F 19 < 2 ^ 31 := by have := hab.2.2.2.2.1; have := hR.1.2.2.2.1; omega
    by_cases h18 : F 18 = 0
    · rw [if_pos h18]
      by_cases h1 : n0 < 1
      · rw [if_pos h1]; omega
      · rw [if_neg h1]; exact tn_pos_lt h1
    · rw [if_neg h18]; exact h19
  have hA' : Ct l w yX2_crashAfter wsX2_crashAfter ⟨1, 0, 0, 20⟩ [.ref y, .int n0] G sz (fun v G' sz' => v = none ∧ sz' = sz ∧ ∃ A', CS y sz A' S R DB T BI BD P M G' ∧ A' 7 = crN F n0 ∧ ∀ i, i ≠ 7 → A' i = A i) := by
    obtain ⟨⟨r1, r2, r3, r4, r5⟩, ⟨f0, f17, f18, f20, f5, f11, f6, fN⟩, hm, hl, hb, hs⟩ := hR
    obtain ⟨a0, a0b, a1, a5, a7, a8⟩ := id hab
    clear hl
    by_cases h18 : F 18 = 0
    · have ecr : crN F n0 = if n0 < 1 then 0 else tn n0 := by unfold crN; rw [if_pos h18]
      refine Ct.wk (c_X2_crashAfter_up l w y sz A S R DB T BI BD P M G hC n0 (by omega)) ?_
      rintro v G' sz' ⟨rfl, rfl, rfl⟩
      refine ⟨rfl, rfl, va_up A 7 (if n0 < 1 then 0 else tn n0), hC.putA rfl rfl ⟨a0, a0b, a1, a5, ?_, a8⟩, ?_, fun i hi => va_up_ne _ _ hi⟩
      · rw [va_up_self, ← ecr]; exact hcr
      · rw [va_up_self, ecr]
    · have ecr : crN F n0 = F 19 := by unfold crN; rw [if_neg h18]
      refine Ct.wk (c_X2_crashAfter_dn l w y sz A S R DB T BI BD P M G hC n0 (by omega)) ?_
      rintro v G' sz' ⟨rfl, rfl, rfl⟩
      exact ⟨rfl, rfl, A, hC, by rw [ecr]; exact r4, fun i _ => rfl⟩
  refine ⟨va_up F 19 (crN F n0), K, N, Z, Ct.wk hA' ?_, fun y2 sz2 G0 => c_X3_crashAfter l w y2 sz2 F K N Z G0 n0 hR.2.1.1 hR.2.1.2.2.1⟩
  rintro v G' sz' ⟨rfl, rfl, A', hC', h7, hi⟩
  refine ⟨rfl, Nat.le_refl _, A', S, R, DB, T, BI, BD, P, hC', ?_⟩
  obtain ⟨⟨r1, r2, r3, r4, r5⟩, ⟨f0, f17, f18, f20, f5, f11, f6, fN⟩, hm, hl, hb, hs⟩ := hR
  have i0 := hi 0 (by omega)
  have i1 := hi 1 (by omega)
  have i5 := hi 5 (by omega)
  have i6 := hi 6 (by omega)
  have i8 := hi 8 (by omega)
  have e19 : va_up F 19 (crN F n0) 19 = crN F n0 := rfl
  have ej : ∀ i, i ≠ 19 → va_up F 19 (crN F n0) i = F i := fun i hi => va_up_ne _ _ hi
  refine ⟨⟨i0.trans r1, i1.trans r2, i6.trans r3, h7.trans e19.symm, i8.trans r5⟩, ⟨f0, f17, f18, (show F 20 ≤ 300 * (c + 1) by omega), (show F 5 ≤ c + 1 by omega), (show F 11 ≤ c + 1 by omega), f6, fN⟩, ?_, hl, hb, fun j hj => by rw [i1]; exact hs j hj⟩
  rw [i5]
  exact hm
