/-- what the reference's splits need -/
theorem itok {F : Nat → Nat} {K : Nat → Nat → Int32} {N : Nat → Nat → Nat} {R0 : Nat → Nat} {BI : Nat → Nat → Nat} {BD : Nat → Nat → Nat → Int32} {P : Nat → Prop} {k : Int32} (hv : Vw (F 6) (F 5) (K 0) (K 1) (N 0) (N 1) R0 BI BD P) (hd : F 6 ≤ 8) (hm : tgB F K N k = eb F N k ∨ tgB F K N k ≤ 8) : ItOk (f17 F) K N k (F 5) (puM F K N k) := by
  have he0 : hx k % 2 ^ F 6 < 2 ^ F 6 := Nat.mod_lt _ (Nat.two_pow_pos _)
  obtain ⟨q1, q2, q3, q4, q5, q6⟩ := hv.1 _ he0
  have hle : eb F N k ≤ F 6 := q2
  have heq : eb (f17 F) N k = eb F N k := rfl
  have h6 : f17 F 6 = F 6 := rfl
  have hit := itP_eb (F := f17 F) (N := N) (k := k) (by rw [heq, h6]; exact hle)
  rw [heq, h6] at hit
  have hct : cnt (K 0) (hx k) (eb F N k) (F 5) = BI 3 (R0 (hx k % 2 ^ F 6)) := cnt_bkt hv
  intro j hj
  obtain ⟨h1, h2⟩ := hit j
  have h5 : (itP (f17 F) N k j).1 5 = F 5 := by rw [itP_fix _ _ _ 5 (by omega)]; rfl
  rw [h1, h2]
  by_cases h15 : BI 3 (R0 (hx k % 2 ^ F 6)) = 15
  · obtain ⟨t1, t2⟩ := tgB_full hv hd h15
    have hf := fun β (hb : eb F N k ≤ β) (hb2 : β ≤ 32) => full_iff hv h15 (β := β) hb hb2
    generalize tz (tn (dif (BD 0 (R0 (hx k % 2 ^ F 6))) (mx k) 15)) = t at *
    unfold puM at hj ⊢
    rw [t2] at hm hj ⊢
    refine ⟨by omega, h5, by omega, fun hlt => ⟨(hf _ (by omega) (by omega)).mpr (by omega), fun hq => by omega⟩, fun hje => ?_⟩
    have := (hf (eb F N k + j) (by omega) (by omega))
    have h9 : ¬ 15 ≤ cnt (K 0) (hx k) (eb F N k + j) (F 5) := fun z => by have := this.mp z; omega
    omega
  · have ht := tgB_room (k := k) hv (by omega)
    unfold puM at hj ⊢
    rw [ht] at hj ⊢
    have hj0 : j = 0 := by omega
    subst hj0
    rw [Nat.add_zero]
    refine ⟨by omega, h5, by omega, fun hlt => absurd hlt (by omega), fun _ => by rw [hct]; omega⟩
theorem setN_e (N : Nat → Nat → Nat) {E e l : Nat} (he : e < E) : setN N E e l l 1 e = 0 := by
  rw [setN_1a, if_pos ⟨he, rfl⟩]
theorem pair_put (l : Launch) (w : Wd) {c y sz : Nat} {M G : Pic} {F : Nat → Nat} {K : Nat → Nat → Int32} {N : Nat → Nat → Nat} {Z : Nat → Nat → Bool} (k0 v0 : Int32) (h : INVM c y sz M F K N Z G) (hc : c ≤ 1000) : ∃ (a : Int32) (F' : Nat → Nat) (K' : Nat → Nat → Int32) (N' : Nat → Nat → Nat) (Z' : Nat → Nat → Bool), Ct l w yX2_put wsX2_put ⟨4, 51, 595, 83⟩ [.ref y, .int k0, .int v0] G sz (CP (some (.int a)) c y sz M F' K' N' Z') ∧ (∀ y2 sz2 G0, Ct l w yX3_put wsX3_put ⟨4, 0, 0, 89⟩ [.ref y2, .int k0, .int v0] (mset y2 F K N Z G0) sz2 (rt (some (.int a)) (mset y2 F' K' N' Z' G0) sz2)) := by
  obtain ⟨A, S, R, DB, T, BI, BD, P, hC, hR⟩ := h
  have hR0 := hR
  have hab := hC.ab
  obtain ⟨⟨r1, r2, r3, r4, r5⟩, ⟨f0, fg17, f18, f20, f5, f11, f6, fN⟩, hm, hl, hb, hs⟩ := hR
  obtain ⟨a0, a0b, a1, a5, a7, a8⟩ := id hab
  by_cases h18 : F 18 = 0
  · obtain ⟨l1, l2, hLV, hnd, -⟩ := hl h18
    clear hl
    have hv := hLV.1
    have hnb := hLV.2.1
    have hS2 := hs 0 (by omega)
    have he0 : hx k0 % 2 ^ F 6 < 2 ^ F 6 := Nat.mod_lt _ (p2pos _)
    obtain ⟨q1, q2, q3, q4, q5, q6⟩ := hv.1 _ he0
    have heb : eb F N k0 ≤ F 6 := q2
    by_cases hA : fp F K k0 < F 5
    · refine ⟨nI 0, f17 F, poK F K k0 v0, poN F N k0, Z, Ct.wk (c_X2_put_old l w y sz A S R DB T BI BD P M G hC k0 v0 (by omega) hS2 hb (F 1) (Z 0) K N (by rw [l1, l2]; exact hLV) (by rw [l2]; exact hnd) (by rw [l2]; exact hA)) ?_, fun y2 sz2 G0 => c_X3_put_old l w y2 sz2 F K N Z G0 k0 v0 (by omega) f0 f18 h18 hA f6 heb⟩
      rintro v G' sz' ⟨rfl, R1, BI1, BD1, P1, hC1, hL1, hof, hb41, hz⟩
      refine ⟨rfl, hz, A, _, _, DB, T, BI1, BD1, P1, hC1, ?_⟩
      refine hR0.live hab h18 (fun i _ _ h17 => va_up_ne _ _ h17) ⟨rfl, rfl⟩ ⟨setN_2a _ _ _ _ _ _ (by omega), setN_2a _ _ _ _ _ _ (by omega)⟩ l1.symm l2.symm hS2 (by omega) ?_ ?_ rfl ⟨hx k0 % 2 ^ F 6, by rw [l1]; exact he0, setN_e _ he0⟩ hof hb41
      · have h9 := hL1
        rw [l1, l2] at h9 ⊢
        exact h9
      · rw [l2]; exact hnd
    · have hAc : ¬ fnd (K 0) k0 (S 0 4) 0 < S 0 4 := by rw [l2]; exact hA
      have hpF : ∀ i, i ≠ 5 → i ≠ 6 → i ≠ 17 → pnF F K N k0 i = F i := fun i h5 h6 h17 => by
        unfold pnF
        rw [va_up_ne _ _ h5, itP_fix _ _ _ i h6]
        exact va_up_ne _ _ h17
      have hp17 : pnF F K N k0 17 = 1 := by
        unfold pnF
        rw [va_up_ne _ _ (by omega), itP_fix _ _ _ 17 (by omega)]
        rfl
      have hpN : pnN F K N k0 2 = N 2 ∧ pnN F K N k0 3 = N 3 := by
        unfold pnN
        rw [setN_2a _ _ _ _ _ 2 (by omega), setN_2a _ _ _ _ _ 3 (by omega), itP_2 _ _ _ 2 (by omega), itP_2 _ _ _ 3 (by omega)]
        exact ⟨rfl, rfl⟩
      have hit := itP_eb (F := f17 F) (N := N) (k := k0) heb
      have hmm := hit (puM F K N k0)
      have hf6 : f17 F 6 = F 6 := rfl
      have hfe : eb (f17 F) N k0 = eb F N k0 := rfl
      rw [hf6, hfe] at hmm
      have hem : hx k0 % 2 ^ (itP (f17 F) N k0 (puM F K N k0)).1 6 < 2 ^ (itP (f17 F) N k0 (puM F K N k0)).1 6 := Nat.mod_lt _ (p2pos _)
      by_cases h15 : BI 3 (R 0 (hx k0 % 2 ^ F 6)) = 15
      · obtain ⟨t1, t2⟩ := tgB_full hv f6 h15
        obtain ⟨t, ht⟩ : ∃ t, tz (tn (dif (BD 0 (R 0 (hx k0 % 2 ^ F 6))) (mx k0) 15)) = t := ⟨_, rfl⟩
        rw [ht] at t1 t2
        have hmb : ∀ b : Bool, (hasR F K N k0 = b) → decide (max (S 0 2) (tz (tn (dif (BD 0 (R 0 (hx k0 % 2 ^ S 0 2))) (mx k0) 15)) + 1) ≤ A 1 ∧ S 0 3 + (tz (tn (dif (BD 0 (R 0 (hx k0 % 2 ^ S 0 2))) (mx k0) 15)) + 1) - BI 0 (R 0 (hx k0 % 2 ^ S 0 2)) + drB (max (S 0 2) (tz (tn (dif (BD 0 (R 0 (hx k0 % 2 ^ S 0 2))) (mx k0) 15)) + 1)) ≤ A 0 - 2) = b := by
          intro b hb'
          rw [← hb']
          unfold hasR
          rw [l1, ht]
          rw [Bool.eq_iff_iff, decide_eq_true_eq, decide_eq_true_eq, t2, q3]
          have e1 : N 0 (hx k0 % 2 ^ F 6) = eb F N k0 := rfl
          rw [e1]
          clear ht
          by_cases h9 : t + 1 ≤ 8
          · rw [Nat.min_eq_left (show t + 1 ≤ 9 by omega)]
            constructor
            · rintro ⟨z1, z2⟩; exact Or.inr ⟨by omega, by omega⟩
            · rintro (z | ⟨z1, z2⟩)
              · omega
              · exact ⟨by omega, by omega⟩
          · rw [Nat.min_eq_right (show 9 ≤ t + 1 by omega)]
            constructor
            · rintro ⟨z1, z2⟩; omega
            · rintro (z | ⟨z1, z2⟩) <;> omega
        have hlt : BI 0 (R 0 (hx k0 % 2 ^ S 0 2)) ≤ tz (tn (dif (BD 0 (R 0 (hx k0 % 2 ^ S 0 2))) (mx k0) 15)) + 1 := by
          rw [l1, ht, q3]
          have e1 : N 0 (hx k0 % 2 ^ F 6) = eb F N k0 := rfl
          rw [e1]
          exact Nat.le_succ_of_le t1
        cases hR2 : hasR F K N k0 with
        | false =>
          exact ⟨-2000000001, F, K, N, Z, ct_same (c_X2_put_nr l w y sz A S R DB T BI BD P M G hC k0 v0 (by omega) hS2 hb (F 1) (Z 0) K N (by rw [l1, l2]; exact hLV) (by rw [l2]; exact hnd) hAc (by rw [l1]; exact h15) (hmb false hR2) hlt) hC hR0, fun y2 sz2 G0 => c_X3_put_nr l w y2 sz2 F K N Z G0 k0 v0 (by omega) f0 f18 h18 hA hR2 f6 (by omega) (by omega) (by omega) fN⟩
        | true =>
          have hmt := of_decide_eq_true (hmb true hR2)
          have h10 := hmt.1
          rw [l1, ht] at h10
          have hmb2 := hmb true hR2
          clear hmt hmb
          have htg8 : tgB F K N k0 = t + 1 ∧ tgB F K N k0 ≤ 8 := by
            rw [t2]
            clear ht hlt hmb2 h15 q3
            omega
          have hio := itok (k := k0) hv f6 (Or.inr htg8.2)
          have hm0 : BI 0 (R 0 (hx k0 % 2 ^ S 0 2)) + puM F K N k0 = tz (tn (dif (BD 0 (R 0 (hx k0 % 2 ^ S 0 2))) (mx k0) 15)) + 1 := by
            unfold puM
            rw [l1, ht, q3]
            have e1 : N 0 (hx k0 % 2 ^ F 6) = eb F N k0 := rfl
            rw [e1]
            clear ht e1 hlt hmb2 h15 q3 hio
            omega
          have hdm : (itP (f17 F) N k0 (puM F K N k0)).1 6 ≤ A 1 := by
            rw [hmm.2]
            unfold puM
            clear ht hlt hmb2 h15 q3 hio hm0
            omega
          have hlast := (hio (puM F K N k0) (Nat.le_refl _)).2.2.2.2 rfl
          refine ⟨nI 0, pnF F K N k0, pnK F K k0 v0, pnN F K N k0, Z, Ct.wk (c_X2_put_split l w y sz A S R DB T BI BD P M G hC k0 v0 (by omega) hS2 hb (F 1) (Z 0) K N (by rw [l1, l2]; exact hLV) (by rw [l2]; exact hnd) hAc (f17 F) l1 (puM F K N k0) (by rw [l1]; exact h15) hmb2 hlt hm0 (by rw [l2]; exact hlast)) ?_, fun y2 sz2 G0 => c_X3_put_new l w y2 sz2 F K N Z G0 k0 v0 (by omega) f0 f18 h18 hA hR2 f6 (by omega) (by omega) (by omega) fN hio⟩
          rintro v G' sz' ⟨rfl, nb1, R1, BI1, BD1, P1, hC1, hL1, hof, hb41, hz⟩
          refine ⟨rfl, hz, A, _, _, DB, T, BI1, BD1, P1, hC1, ?_⟩
          refine hR0.live hab h18 hpF ⟨rfl, rfl⟩ hpN rfl (by rw [l2]; rfl) hdm (by omega) ?_ ?_ hp17 ⟨_, hem, setN_e _ hem⟩ hof hb41
          · have h9 := hL1
            rw [l2] at h9 ⊢
            exact h9
          · rw [l2]
            exact ndF_app hnd (fun i hi hq => hA (fnd_lt_iff.mpr ⟨i, hi, hq⟩))
      · have h15b : BI 3 (R 0 (hx k0 % 2 ^ F 6)) < 15 := by omega
        have htr := tgB_room (k := k0) hv h15b
        have hR2 : hasR F K N k0 = true := decide_eq_true (Or.inl htr)
        have hm0 : puM F K N k0 = 0 := by unfold puM; omega
        have hio := itok (k := k0) hv f6 (Or.inl htr)
        have hdm : (itP (f17 F) N k0 (puM F K N k0)).1 6 ≤ A 1 := by
          rw [hmm.2, hm0]
          omega
        refine ⟨nI 0, pnF F K N k0, pnK F K k0 v0, pnN F K N k0, Z, Ct.wk (c_X2_put_room l w y sz A S R DB T BI BD P M G hC k0 v0 (by omega) hS2 hb (F 1) (Z 0) K N (by rw [l1, l2]; exact hLV) (by rw [l2]; exact hnd) hAc (f17 F) l1 (puM F K N k0) hm0 (by rw [l1]; exact h15b)) ?_, fun y2 sz2 G0 => c_X3_put_new l w y2 sz2 F K N Z G0 k0 v0 (by omega) f0 f18 h18 hA hR2 f6 (by omega) (by omega) (by omega) fN hio⟩
        rintro v G' sz' ⟨rfl, nb1, R1, BI1, BD1, P1, hC1, hL1, hof, hb41, hz⟩
        refine ⟨rfl, hz, A, _, _, DB, T, BI1, BD1, P1, hC1, ?_⟩
        refine hR0.live hab h18 hpF ⟨rfl, rfl⟩ hpN rfl (by rw [l2]; rfl) hdm (by omega) ?_ ?_ hp17 ⟨_, hem, setN_e _ hem⟩ hof hb41
        · have h9 := hL1
          rw [l2] at h9 ⊢
          exact h9
        · rw [l2]
          exact ndF_app hnd (fun i hi hq => hA (fnd_lt_iff.mpr ⟨i, hi, hq⟩))
  · exact ⟨-2000000003, F, K, N, Z, ct_same (c_X2_put_dn l w y sz A S R DB T BI BD P M G hC k0 v0 (by omega)) hC hR0, fun y2 sz2 G0 => c_X3_put_dn l w y2 sz2 F K N Z G0 k0 v0 (by omega) f0 f18 (by omega)⟩
theorem pair_remove (l : Launch) (w : Wd) {c y sz : Nat} {M G : Pic} {F : Nat → Nat} {K : Nat → Nat → Int32} {N : Nat → Nat → Nat} {Z : Nat → Nat → Bool} (k0 : Int32) (h : INVM c y sz M F K N Z G) (hc : c ≤ 1000) : ∃ (a : Int32) (F' : Nat → Nat) (K' : Nat → Nat → Int32) (N' : Nat → Nat → Nat) (Z' : Nat → Nat → Bool), Ct l w yX2_remove wsX2_remove ⟨4, 27, 315, 84⟩ [.ref y, .int k0] G sz (CP (some (.int a)) c y sz M F' K' N' Z') ∧ (∀ y2 sz2 G0, Ct l w yX3_remove wsX3_remove ⟨2, 0, 0, 45⟩ [.ref y2, .int k0] (mset y2 F K N Z G0) sz2 (rt (some (.int a)) (mset y2 F' K' N' Z' G0) sz2)) := by
  obtain ⟨A, S, R, DB, T, BI, BD, P, hC, hR⟩ := h
  have hR0 := hR
  have hab := hC.ab
  obtain ⟨⟨r1, r2, r3, r4, r5⟩, ⟨f0, fg17, f18, f20, f5, f11, f6, fN⟩, hm, hl, hb, hs⟩ := hR
  obtain ⟨a0, a0b, a1, a5, a7, a8⟩ := id hab
  by_cases h18 : F 18 = 0
  · obtain ⟨l1, l2, hLV, hnd, -⟩ := hl h18
    clear hl
    have hv := hLV.1
    have hS2 := hs 0 (by omega)
    have he0 : hx k0 % 2 ^ F 6 < 2 ^ F 6 := Nat.mod_lt _ (p2pos _)
    by_cases hA : fp F K k0 < F 5
    · have hNb : ∀ j, rmN F K N k0 0 j ≤ 8 ∨ 2 ^ F 6 ≤ j := by
        unfold rmN
        refine mgN_le he0 9 _ (setN_le (fun j => ?_) (fN _ he0))
        by_cases hj : j < 2 ^ F 6
        · exact Or.inl (fN j hj)
        · exact Or.inr (by omega)
      refine ⟨nI 0, rmF F K N k0, rmK F K k0, rmN F K N k0, Z, Ct.wk (c_X2_remove_ok l w y sz A S R DB T BI BD P M G hC k0 (by omega) hS2 hb (F 1) (Z 0) K N (by rw [l1, l2]; exact hLV) (by rw [l2]; exact hnd) (by rw [l2]; exact hA)) ?_, fun y2 sz2 G0 => c_X3_remove_ok l w y2 sz2 F K N Z G0 k0 (by omega) f0 f18 h18 hA f6 fN hNb⟩
      rintro v G' sz' ⟨rfl, nb1, R1, BI1, BD1, P1, hC1, hL1, hn1, hex, hof, hb41, hz⟩
      refine ⟨rfl, hz, A, _, _, DB, T, BI1, BD1, P1, hC1, ?_⟩
      rw [l1, l2] at hL1 hex ⊢
      rw [l2] at hn1
      have hle := hvD_le (rmN F K N k0 0) (F 6)
      refine hR0.live (F' := rmF F K N k0) (K' := rmK F K k0) (N' := rmN F K N k0) hab h18 (fun i h5 h6 h17 => ?_) ⟨rfl, rfl⟩ ⟨?_, ?_⟩ rfl rfl (Nat.le_trans hle (by omega)) (by omega) hL1 hn1 rfl hex hof hb41
      · show va_up (va_up (va_up F 17 1) 5 (F 5 - 1)) 6 _ i = F i
        rw [va_up_ne _ _ h6, va_up_ne _ _ h5, va_up_ne _ _ h17]
      · unfold rmN
        rw [mgN_2 (by omega), setN_2a _ _ _ _ _ _ (by omega)]
      · unfold rmN
        rw [mgN_2 (by omega), setN_2a _ _ _ _ _ _ (by omega)]
    · exact ⟨-2000000002, F, K, N, Z, ct_same (c_X2_remove_nk l w y sz A S R DB T BI BD P M G hC k0 (by omega) hS2 hb (F 1) (Z 0) K N (by rw [l1, l2]; exact hLV) (by rw [l2]; exact hnd) (by rw [l2]; exact hA)) hC hR0, fun y2 sz2 G0 => c_X3_remove_nk l w y2 sz2 F K N Z G0 k0 (by omega) f0 f18 h18 hA⟩
  · exact ⟨-2000000003, F, K, N, Z, ct_same (c_X2_remove_dn l w y sz A S R DB T BI BD P M G hC k0 (by omega)) hC hR0, fun y2 sz2 G0 => c_X3_remove_dn l w y2 sz2 F K N Z G0 k0 (by omega) f0 f18 (by omega)⟩
