def INVM (c y sz : Nat) (M : Pic) (F : Nat → Nat) (K : Nat → Nat → Int32) (N : Nat → Nat → Nat) (Z : Nat → Nat → Bool) (G : Pic) : Prop :=
  ∃ (A : Nat → Nat) (S R DB : Nat → Nat → Nat) (T : Nat → Bool) (BI : Nat → Nat → Nat) (BD : Nat → Nat → Nat → Int32) (P : Nat → Prop), CS y sz A S R DB T BI BD P M G ∧ RR c A S R DB BI BD P F K N Z
def CP (a : Option Value) (c y sz : Nat) (M : Pic) (F : Nat → Nat) (K : Nat → Nat → Int32) (N : Nat → Nat → Nat) (Z : Nat → Nat → Bool) : Option Value → Pic → Nat → Prop := fun v G' sz' => v = a ∧ sz ≤ sz' ∧ INVM (c + 1) y sz' M F K N Z G'
theorem RR.mono {c c' : Nat} {A : Nat → Nat} {S R DB BI : Nat → Nat → Nat} {BD : Nat → Nat → Nat → Int32} {P : Nat → Prop} {F : Nat → Nat} {K : Nat → Nat → Int32} {N : Nat → Nat → Nat} {Z : Nat → Nat → Bool} (h : RR c A S R DB BI BD P F K N Z) (hc : c ≤ c') : RR c' A S R DB BI BD P F K N Z := by
  obtain ⟨h1, ⟨f0, f17, f18, f20, f5, f11, f6, fN⟩, h3⟩ := h
  exact ⟨h1, ⟨f0, f17, f18, by omega, by omega, by omega, f6, fN⟩, h3⟩
theorem ct_same {l : Launch} {w : Wd} {yy : MethodName} {ws : List Cond} {rm : Room} {av : List Value} {G M : Pic} {sz c y : Nat} {v : Option Value} {T : Nat → Bool} {A : Nat → Nat} {S R DB BI : Nat → Nat → Nat} {BD : Nat → Nat → Nat → Int32} {P : Nat → Prop} {F : Nat → Nat} {K : Nat → Nat → Int32} {N : Nat → Nat → Nat} {Z : Nat → Nat → Bool} (h : Ct l w yy ws rm av G sz (rt v G sz)) (hC : CS y sz A S R DB T BI BD P M G) (hR : RR c A S R DB BI BD P F K N Z) : Ct l w yy ws rm av G sz (CP v c y sz M F K N Z) := by
  refine Ct.wk h ?_
  rintro v' G' sz' ⟨rfl, rfl, rfl⟩
  exact ⟨rfl, Nat.le_refl _, A, S, R, DB, T, BI, BD, P, hC, hR.mono (by omega)⟩
theorem Vw.reh {d n n' : Nat} {KK VV KK' VV' : Nat → Int32} {L H R L' H' R' : Nat → Nat} {BI BI' : Nat → Nat → Nat} {BD : Nat → Nat → Nat → Int32} {P : Nat → Prop} (h : Vw d n KK VV L H R BI BD P) (hR : ∀ e, e < 2 ^ d → R' e = R e) (hL : ∀ e, e < 2 ^ d → L' e = L e) (hb : ∀ e, e < 2 ^ d → BI' 0 (R e) = BI 0 (R e) ∧ BI' 3 (R e) = BI 3 (R e) ∧ BI' 4 (R e) = H' e) (hk : kvl KK' VV' n' = kvl KK VV n) : Vw d n' KK' VV' L' H' R' BI' BD P := by
  refine ⟨fun e he => ?_, fun e e' he he' => ?_⟩
  · obtain ⟨a1, a2, a3, a4, a5, a6⟩ := h.1 e he
    obtain ⟨b1, b2, b3⟩ := hb e he
    rw [hR e he, hL e he, b1, b2, b3, hk]
    exact ⟨a1, a2, a3, rfl, a5, a6⟩
  · rw [hR e he, hR e' he', hL e he]
    exact h.2 e e' he he'
/-- the live side anew -/
theorem RR.live {c : Nat} {A : Nat → Nat} {S R DB BI : Nat → Nat → Nat} {BD : Nat → Nat → Nat → Int32} {P : Nat → Prop} {F : Nat → Nat} {K : Nat → Nat → Int32} {N : Nat → Nat → Nat} {Z : Nat → Nat → Bool} {d n nb : Nat} {F' : Nat → Nat} {K' : Nat → Nat → Int32} {N' : Nat → Nat → Nat} {R0 : Nat → Nat} {BI' : Nat → Nat → Nat} {BD' : Nat → Nat → Nat → Int32} {P' : Nat → Prop} (hab : AB A) (h : RR c A S R DB BI BD P F K N Z) (h18 : F 18 = 0) (hF : ∀ i, i ≠ 5 → i ≠ 6 → i ≠ 17 → F' i = F i) (hK : K' 2 = K 2 ∧ K' 3 = K 3) (hN : N' 2 = N 2 ∧ N' 3 = N 3) (hF6 : F' 6 = d) (hF5 : F' 5 = n) (hd : d ≤ A 1) (hn : n ≤ c + 1) (hV : LV (F 1) (Z 0) d n nb (K' 0) (K' 1) (N' 0) (N' 1) R0 BI' BD' P') (hnd : NdF (K' 0) n) (h17 : F' 17 = 1) (hex : ∃ e, e < 2 ^ d ∧ N' 1 e = 0) (hof : OF BI BD P BI' BD' P') (hb4 : ∀ b, BI' 4 b < 2 ^ 31) :
    RR (c + 1) A (va_up S 0 (s3 d nb n)) (va_up R 0 R0) DB BI' BD' P' F' K' N' Z := by
  obtain ⟨⟨r1, r2, r3, r4, r5⟩, ⟨f0, f17, f18, f20, f5, f11, f6, fN⟩, hm, hl, hb, hs⟩ := h
  obtain ⟨a0, a0b, a1, a5, a7, a8⟩ := hab
  have e0 := hF 0 (by omega) (by omega) (by omega)
  have e1 := hF 1 (by omega) (by omega) (by omega)
  have e2 := hF 2 (by omega) (by omega) (by omega)
  have e11 := hF 11 (by omega) (by omega) (by omega)
  have e12 := hF 12 (by omega) (by omega) (by omega)
  have e18 := hF 18 (by omega) (by omega) (by omega)
  have e19 := hF 19 (by omega) (by omega) (by omega)
  have e20 := hF 20 (by omega) (by omega) (by omega)
  subst hF6
  subst hF5
  refine ⟨⟨by omega, by omega, by omega, by omega, by omega⟩, ⟨by omega, by omega, by omega, by omega, by omega, by omega, by omega, fun e he => ?_⟩, ?_, fun _ => ⟨rfl, rfl, ?_, hnd, ?_⟩, hb4, fun j hj => ?_⟩
  · have := (hV.1.1 e he).2.1; omega
  · rw [e1, e11, e12, hK.1, hK.2, hN.1, hN.2]
    exact hm.frame (va_up_ne _ _ (by omega)) (va_up_ne _ _ (by omega)) rfl hof
  · rw [e1]; exact hV
  · exact ⟨fun _ => hex, fun _ => h17⟩
  · by_cases hj0 : j = 0
    · subst hj0; exact hd
    · rw [va_up_ne _ _ hj0]; exact hs j hj
theorem RR.facts {c : Nat} {A : Nat → Nat} {S R DB BI : Nat → Nat → Nat} {BD : Nat → Nat → Nat → Int32} {P : Nat → Prop} {F : Nat → Nat} {K : Nat → Nat → Int32} {N : Nat → Nat → Nat} {Z : Nat → Nat → Bool} (hab : AB A) (h : RR c A S R DB BI BD P F K N Z) (h18 : F 18 = 0) : WcOk A S R DB BI P ∧ cntC (fun e => BI 0 (R 0 e)) (fun e => BI 4 (R 0 e)) (2 ^ S 0 2) = cntC (N 0) (N 1) (2 ^ F 6) ∧ drB (S 0 2) = drB (F 6) ∧ A 0 - 2 - S (1 + A 5) 3 - drB (S (1 + A 5) 2) = cntE (Z 0) (F 1 - 2) ∧ F 6 ≤ 8 ∧ (∀ e, e < 2 ^ F 6 → N 0 e ≤ 30) ∧ (∀ e, e < 2 ^ F 6 → N 1 e ≤ 200) ∧ 8 ≤ F 1 ∧ F 1 ≤ 200 ∧ F 19 < 2 ^ 31 := by
  obtain ⟨⟨r1, r2, r3, r4, r5⟩, ⟨f0, f17, f18, f20, f5, f11, f6, fN⟩, ⟨⟨m1, m2, m3, m4, m5⟩, m6, m7, m8, m9, m10⟩, hl, hb, hs⟩ := h
  obtain ⟨a0, a0b, a1, a5, a7, a8⟩ := hab
  obtain ⟨l1, l2, ⟨hv, hnb, hLH⟩, hnd, -⟩ := hl h18
  clear hl
  refine ⟨⟨hs 0 (by omega), fun e he => ?_, hb, ?_, fun j hj => hs (1 + j) (by omega), fun e he => ?_, fun k hk => ?_⟩, ?_, by rw [l1], ?_, f6, fun e he => by have := fN e he; omega, fun e he => ?_, by omega, by omega, by omega⟩
  · rw [l1] at he
    obtain ⟨q1, q2, q3, -⟩ := hv.1 e he
    exact ⟨q1, by omega⟩
  · rw [m1, m2]; omega
  · rw [m1] at he
    obtain ⟨q1, q2, q3, q4, -⟩ := m4.1 e he
    exact ⟨q1, by rw [q4, r1]; exact (m6 e he).2⟩
  · rw [m1] at hk; rw [r1]; exact m9 k hk
  · rw [l1]
    refine cntC_congr fun j hj => ?_
    obtain ⟨q1, q2, q3, q4, -⟩ := hv.1 j hj
    exact ⟨q3, q4⟩
  · rw [m1, m2]; omega
  · by_cases hz : N 1 e = 0
    · omega
    · have := (hLH.1 e he hz).2.1; omega
theorem pair_wc (l : Launch) (w : Wd) (y : Nat) {c : Nat} {A : Nat → Nat} {S R DB BI : Nat → Nat → Nat} {BD : Nat → Nat → Nat → Int32} {P : Nat → Prop} {F : Nat → Nat} {K : Nat → Nat → Int32} {N : Nat → Nat → Nat} {Z : Nat → Nat → Bool} (hab : AB A) (hR : RR c A S R DB BI BD P F K N Z) (h18 : F 18 = 0) (hc : c ≤ 1000) : ∃ (a : Int32) (F' : Nat → Nat) (K' : Nat → Nat → Int32) (N' : Nat → Nat → Nat) (Z' : Nat → Nat → Bool), (∀ T sz M G, CS y sz A S R DB T BI BD P M G → Ct l w yX2_writeChanges wsX2_writeChanges ⟨3, 0, 0, 62⟩ [.ref y] G sz (fun v G' sz' => (∃ x : Int32, v = some (.int x)) ∧ CP (some (.int a)) c y sz M F' K' N' Z' v G' sz')) ∧ (∀ y2 sz2 G0, Ct l w yX3_syncNow wsX3_syncNow ⟨3, 0, 0, 65⟩ [.ref y2] (mset y2 F K N Z G0) sz2 (rt (some (.int a)) (mset y2 F' K' N' Z' G0) sz2)) := by
  obtain ⟨hw, hcc, hdr, hfe, hd6, hl30, hh200, hB, hB2, h19⟩ := hR.facts hab h18
  have hR0 := hR
  obtain ⟨⟨r1, r2, r3, r4, r5⟩, ⟨f0, f17, f18, f20, f5, f11, f6, fN⟩, hm, hl, hb, hs⟩ := hR
  obtain ⟨a0, a0b, a1, a5, a7, a8⟩ := id hab
  obtain ⟨l1, l2, ⟨hv, hnb, hLH⟩, hnd, hch⟩ := hl h18
  clear hl
  have hdr8 := drB_le hd6
  have hcl := cntC_le (N 0) (N 1) (2 ^ F 6)
  have hp8 := p2le hd6
  by_cases h17 : F 17 = 0
  · have hz : cntC (N 0) (N 1) (2 ^ F 6) = 0 := cntC_none _ _ fun e he hq => by
      have := hch.mpr ⟨e, he, hq⟩
      omega
    refine ⟨nI 0, F, K, N, Z, fun T sz M G hC => ?_, fun y2 sz2 G0 => c_X3_syncNow_0 l w y2 sz2 F K N Z G0 hd6 hl30 hh200 hB hB2 f17 h19 (by omega) h17⟩
    refine Ct.wk (c_X2_writeChanges_0 l w y sz A S R DB T BI BD P M G hC hw (by rw [hcc]; exact hz)) ?_
    rintro v G' sz' ⟨rfl, rfl, rfl⟩
    exact ⟨⟨_, rfl⟩, rfl, Nat.le_refl _, A, S, R, DB, T, BI, BD, P, hC, hR0.mono (by omega)⟩
  · have h17b : F 17 = 1 := by omega
    obtain ⟨e, he, hez⟩ := hch.mp h17b
    have hpos : 0 < cntC (N 0) (N 1) (2 ^ F 6) := by
      have h1 : e % 2 ^ N 0 e < 2 ^ F 6 := Nat.lt_of_le_of_lt (Nat.mod_le _ _) he
      obtain ⟨q1, q2, q3⟩ := hv.cong he h1 (by rw [Nat.mod_mod])
      exact cntC_pos _ _ h1 (by rw [← q2, Nat.mod_mod]) (q3.symm.trans hez)
    by_cases hnr : cntE (Z 0) (F 1 - 2) < syA F N
    · refine ⟨-2000000001, F, K, N, Z, fun T sz M G hC => ?_, fun y2 sz2 G0 => c_X3_syncNow_nr l w y2 sz2 F K N Z G0 hd6 hl30 hh200 hB hB2 f17 h19 (by omega) h17b hnr⟩
      refine Ct.wk (c_X2_writeChanges_nr l w y sz A S R DB T BI BD P M G hC hw (by rw [hcc]; exact hpos) (by rw [hcc, hdr, hfe]; unfold syA at hnr; omega)) ?_
      rintro v G' sz' ⟨rfl, rfl, rfl⟩
      exact ⟨⟨_, rfl⟩, rfl, Nat.le_refl _, A, S, R, DB, T, BI, BD, P, hC, hR0.mono (by omega)⟩
    · have hcap : syA F N ≤ cntE (Z 0) (F 1 - 2) := by omega
      have hnew := fun T => syNew T hab hR0 h18 hcap
      have hsyA : syA F N ≤ 264 := by unfold syA; omega
      have hcapC : cntC (fun e => BI 0 (R 0 e)) (fun e => BI 4 (R 0 e)) (2 ^ S 0 2) + drB (S 0 2) ≤ A 0 - 2 - S (1 + A 5) 3 - drB (S (1 + A 5) 2) := by rw [hcc, hdr, hfe]; unfold syA at hcap; omega
      have hposC : 0 < cntC (fun e => BI 0 (R 0 e)) (fun e => BI 4 (R 0 e)) (2 ^ S 0 2) := by rw [hcc]; exact hpos
      have hwv := wbI_val (A := A) (by omega) (syA F N)
      have hwv1 := wbI_val (A := A) (by omega) (syA F N + 1)
      have hcond : ∀ T, ((wcD A S R DB T BI).1 7 = 1 ∨ (wcD A S R DB T BI).1 8 = 1) ↔ (0 < F 19 ∧ F 19 ≤ syA F N + 1) := fun T => by
        rw [(hnew T).1.2.2.1, hwv.1, hwv.2.1]
        by_cases q : 0 < A 7 ∧ A 7 ≤ syA F N
        · rw [if_pos q]; omega
        · rw [if_neg q]; omega
      have hA3 : ∀ T, wbA (wcD A S R DB T BI).1 = wbI A (syA F N + 1) := fun T => by rw [(hnew T).1.2.2.1]; rfl
      have hb4' : ∀ T b, (wcW A S R DB T BI).2.2 4 b < 2 ^ 31 := fun T b => wbS_B4 (R 0) A (wcT A S R DB T BI) BI a0b hb _ b
      have hof : ∀ T, OF BI BD P (wcW A S R DB T BI).2.2 BD P := fun T q hq => ⟨hq, fun hz j => ⟨((hnew T).1.2.1 q).2.2 hz j, rfl⟩⟩
      by_cases hcr : 0 < F 19 ∧ F 19 ≤ syA F N + 1
      · refine ⟨-2000000003, syD F, K, N, Z, fun T sz M G hC => ?_, fun y2 sz2 G0 => c_X3_syncNow_dn l w y2 sz2 F K N Z G0 hd6 hl30 hh200 hB hB2 f17 h19 (by omega) h17b hcap hcr.1 hcr.2⟩
        refine Ct.wk (c_X2_writeChanges_crash l w y sz A S R DB T BI BD P M G hC hw hposC hcapC ((hcond T).mpr hcr)) ?_
        rintro v G' sz' ⟨rfl, rfl, hC1⟩
        refine ⟨⟨_, rfl⟩, rfl, Nat.le_refl _, _, S, R, _, _, _, BD, P, hC1, ?_⟩
        rw [hA3 T]
        rw [if_pos (show 0 < A 7 ∧ A 7 ≤ syA F N + 1 by omega), if_pos (show 0 < A 7 ∧ A 7 ≤ syA F N + 1 by omega)] at hwv1
        obtain ⟨w7, w8, w6, wj⟩ := hwv1
        have w0 := wj 0 (by omega)
        have w1 := wj 1 (by omega)
        have w5 := wj 5 (by omega)
        have s20 : syD F 20 = F 20 + F 19 - 1 := rfl
        have s19 : syD F 19 = 0 := rfl
        have s18 : syD F 18 = 1 := rfl
        have sj : ∀ i, i < 18 → syD F i = F i := fun i hi => by
          unfold syD
          rw [va_up_ne _ _ (by omega), va_up_ne _ _ (by omega), va_up_ne _ _ (by omega)]
        have s0 := sj 0 (by omega)
        have s1 := sj 1 (by omega)
        have s2 := sj 2 (by omega)
        have s5 := sj 5 (by omega)
        have s6 := sj 6 (by omega)
        have s11 := sj 11 (by omega)
        have s12 := sj 12 (by omega)
        have s17 := sj 17 (by omega)
        refine ⟨⟨by omega, by omega, by omega, by omega, by omega⟩, ⟨by omega, by omega, by omega, by omega, by omega, by omega, by omega, by rw [s6]; exact fN⟩, ?_, fun q => absurd q (by omega), hb4' T, fun j hj => by rw [w1]; exact hs j hj⟩
        rw [w5, s1, s11, s12]
        exact hm.frame rfl rfl (va_up_ne _ _ (by omega)) (hof T)
      · have hok : SeOk (syF F N) N Z (drB (F 6)) := (hnew (fun _ => false)).1.2.2.2
        refine ⟨nI 0, _, _, _, _, fun T sz M G hC => ?_, fun y2 sz2 G0 => c_X3_syncNow_ok l w y2 sz2 F K N Z G0 hd6 hl30 hh200 hB hB2 f17 h19 (by omega) h17b hcap hcr (by omega) hok⟩
        refine Ct.wk (c_X2_writeChanges_ok l w y sz A S R DB T BI BD P M G hC hw hposC hcapC (fun q => hcr ((hcond T).mp q))) ?_
        rintro v G' sz' ⟨rfl, rfl, hC1⟩
        refine ⟨⟨_, rfl⟩, rfl, Nat.le_refl _, _, _, _, _, _, _, BD, P, hC1, ?_⟩
        rw [hA3 T]
        rw [if_neg (show ¬ (0 < A 7 ∧ A 7 ≤ syA F N + 1) by omega), if_neg (show ¬ (0 < A 7 ∧ A 7 ≤ syA F N + 1) by omega)] at hwv1
        obtain ⟨w7, w8, w6, wj⟩ := hwv1
        have w0 := wj 0 (by omega)
        have w1 := wj 1 (by omega)
        have s20 : seF (syF F N) 20 = F 20 + (syA F N + 1) := rfl
        have s19 : seF (syF F N) 19 = F 19 - (syA F N + 1) := rfl
        have s18 : seF (syF F N) 18 = F 18 := rfl
        have s17 : seF (syF F N) 17 = 0 := rfl
        have s12 : seF (syF F N) 12 = F 6 := rfl
        have s11 : seF (syF F N) 11 = F 5 := rfl
        have s0 : seF (syF F N) 0 = F 0 := rfl
        have s1 : seF (syF F N) 1 = F 1 := rfl
        have s2 : seF (syF F N) 2 = F 2 := rfl
        have s5 : seF (syF F N) 5 = F 5 := rfl
        have s6 : seF (syF F N) 6 = F 6 := rfl
        have x0 : va_up (wbI A (syA F N + 1)) 5 (1 - A 5) 0 = wbI A (syA F N + 1) 0 := rfl
        have x1 : va_up (wbI A (syA F N + 1)) 5 (1 - A 5) 1 = wbI A (syA F N + 1) 1 := rfl
        have x5 : va_up (wbI A (syA F N + 1)) 5 (1 - A 5) 5 = 1 - A 5 := rfl
        have x6 : va_up (wbI A (syA F N + 1)) 5 (1 - A 5) 6 = wbI A (syA F N + 1) 6 := rfl
        have x7 : va_up (wbI A (syA F N + 1)) 5 (1 - A 5) 7 = wbI A (syA F N + 1) 7 := rfl
        have x8 : va_up (wbI A (syA F N + 1)) 5 (1 - A 5) 8 = wbI A (syA F N + 1) 8 := rfl
        obtain ⟨⟨n1, n2, n3, n4⟩, n5, n6, n7, n8, n9⟩ := hnew T
        have hHH : seH (syF F N) N Z = seH F N Z := rfl
        have hSS : seS (syF F N) N Z (drB (F 6)) = seS F N Z (drB (F 6)) := rfl
        have hk2 : kvl (cpK K (syF F N 5) 2) (cpK K (syF F N 5) 3) (F 5) = kvl (K 0) (K 1) (F 5) := kvl_congr fun i hi => by
          show cpT (K 0) (K 2) (F 5) i = K 0 i ∧ cpT (K 1) (K 3) (F 5) i = K 1 i
          unfold cpT
          rw [if_pos hi, if_pos hi]
          exact ⟨rfl, rfl⟩
        have hn2 : ∀ e, e < 2 ^ F 6 → cpN (mkN N (seH (syF F N) N Z)) 256 2 e = N 0 e := fun e he => by
          show cpT (N 0) (N 2) 256 e = N 0 e
          unfold cpT
          rw [if_pos (by omega)]
        have hn3 : ∀ e, e < 2 ^ F 6 → cpN (mkN N (seH (syF F N) N Z)) 256 3 e = seH F N Z e := fun e he => by
          show cpT (seH F N Z) (N 3) 256 e = seH F N Z e
          unfold cpT
          rw [if_pos (by omega)]
        have hRm : ∀ e, e < 2 ^ F 6 → va_up R (1 + (1 - A 5)) (cpT (R 0) (R (1 + (1 - A 5))) (2 ^ S 0 2)) (1 + (1 - A 5)) e = R 0 e := fun e he => by
          rw [va_up_self]
          unfold cpT
          rw [if_pos (by rw [l1]; exact he)]
        have hDm : ∀ i, i < drB (F 6) → va_up (va_up DB 0 (wcD A S R DB T BI).2.2) (1 + (1 - A 5)) (cpT (wcD A S R DB T BI).2.2 (DB (1 + (1 - A 5))) (drB (A 1))) (1 + (1 - A 5)) i = (wcD A S R DB T BI).2.2 i := fun i hi => by
          rw [va_up_self]
          unfold cpT
          have := drB_mono (a := F 6) (b := A 1) (by have := hs 0 (by omega); omega)
          rw [if_pos (by omega)]
        have hR0' : va_up R (1 + (1 - A 5)) (cpT (R 0) (R (1 + (1 - A 5))) (2 ^ S 0 2)) 0 = R 0 := va_up_ne _ _ (by omega)
        have hS0' : va_up S (1 + (1 - A 5)) (s3 (S 0 2) (S 0 3) (S 0 4)) 0 = S 0 := va_up_ne _ _ (by omega)
        have hcF : cntF (cpN (mkN N (seH (syF F N) N Z)) 256 2) (2 ^ F 6) = cntF (N 0) (2 ^ F 6) := cntF_congr fun j hj => by rw [hn2 j hj]
        have hre : ∀ e, e < 2 ^ F 6 → (wcW A S R DB T BI).2.2 0 (R 0 e) = BI 0 (R 0 e) ∧ (wcW A S R DB T BI).2.2 3 (R 0 e) = BI 3 (R 0 e) ∧ (wcW A S R DB T BI).2.2 4 (R 0 e) = seH F N Z e := fun e he => ⟨(n2 _).1, (n2 _).2.1, n1 e he⟩
        refine ⟨⟨by omega, by omega, by omega, by omega, by omega⟩, ⟨by omega, by omega, by omega, by omega, by omega, by omega, by omega, fun e he => fN e he⟩, ?_, fun _ => ⟨by rw [hS0']; exact l1, by rw [hS0']; exact l2, ?_, hnd, ?_⟩, hb4' T, fun j hj => ?_⟩
        · rw [x5, s1, s11, s12]
          refine ⟨⟨?_, ?_, ?_, ?_, ?_⟩, fun e he => by rw [hn3 e he]; exact n5 e he, fun e e' he he' hq => ?_, fun b hb1 hb2 => ?_, fun i hi => by rw [hDm i hi]; exact n7 i hi, ?_⟩
          · rw [va_up_self]; exact l1
          · rw [va_up_self, hcF]; exact hnb
          · rw [va_up_self]; exact l2
          · exact hv.reh hRm hn2 (fun e he => by rw [hn3 e he]; exact hre e he) hk2
          · intro i j hi hj hq
            have e1 : ∀ i, i < F 5 → cpK K (syF F N 5) 2 i = K 0 i := fun i hi => by
              show cpT (K 0) (K 2) (F 5) i = K 0 i
              unfold cpT
              rw [if_pos hi]
            rw [e1 i hi, e1 j hj] at hq
            exact hnd i j hi hj hq
          · rw [hn3 e he, hn3 e' he'] at hq
            rw [hRm e he, hRm e' he']
            exact n6 e e' he he' hq
          · show seS F N Z (drB (F 6)) b = true ↔ _
            rw [n8 b hb1 hb2]
            constructor
            · rintro (⟨e, he, hq⟩ | ⟨i, hi, hq⟩)
              · exact Or.inl ⟨e, he, by rw [hn3 e he]; exact hq⟩
              · exact Or.inr ⟨i, hi, by rw [hDm i hi]; exact hq⟩
            · rintro (⟨e, he, hq⟩ | ⟨i, hi, hq⟩)
              · exact Or.inl ⟨e, he, by rw [← hn3 e he]; exact hq⟩
              · exact Or.inr ⟨i, hi, by rw [← hDm i hi]; exact hq⟩
          · show cntE (seS F N Z (drB (F 6))) (F 1 - 2) + cntF (cpN (mkN N (seH (syF F N) N Z)) 256 2) (2 ^ F 6) + drB (F 6) = F 1 - 2
            rw [hcF]; exact n9
        · rw [hR0', hS0', s1, s6, s5]
          refine ⟨?_, hnb, ⟨fun e he _ => ?_, fun e e' he he' hq _ => n6 e e' he he' hq⟩⟩
          · exact hv.reh (fun _ _ => rfl) (fun _ _ => rfl) hre rfl
          · refine ⟨(n5 e he).1, (n5 e he).2, ?_⟩
            exact (n8 _ (n5 e he).1 (n5 e he).2).mpr (Or.inl ⟨e, he, rfl⟩)
        · rw [s17]
          constructor
          · intro q; omega
          · rintro ⟨e, he, hq⟩
            have h2 := (n5 e he).1
            have h3 : seH F N Z e = 0 := hq
            omega
        · rw [x1, w1]
          by_cases hjm : j = 1 + (1 - A 5)
          · rw [hjm, va_up_self]; exact hs 0 (by omega)
          · rw [va_up_ne _ _ hjm]; exact hs j hj
