section LVT
variable {B d n nb sz : Nat} {Z0 : Nat → Bool} {KK VV : Nat → Int32} {K N : Nat → Nat → Nat} {R0 R1 L H : Nat → Nat} {BI BI1 : Nat → Nat → Nat} {BD BD1 : Nat → Nat → Nat → Int32} {P P1 : Nat → Prop}
theorem LV.merge {e0 r l : Nat} (h : LV B Z0 d n nb KK VV (N 0) (N 1) R0 BI BD P) (he : e0 = r % 2 ^ d) (hl : N 0 e0 = l + 1) (hl1 : N 0 ((e0 ^^^ 2 ^ l) % 2 ^ d) = l + 1) (hemp : BI 3 (R0 e0) = 0) (hsz : ∀ q, P q → q < sz) :
    LV B Z0 d n (nb - 1) KK VV (setN N (2 ^ d) e0 l l 0) (setN N (2 ^ d) e0 l l 1) (entR R0 (2 ^ d) sz l r) (setI BI sz l (BI 3 (R0 ((e0 ^^^ 2 ^ l) % 2 ^ d))) 0) (setD BD sz (cpT (BD 0 (R0 ((e0 ^^^ 2 ^ l) % 2 ^ d))) (fun _ => 0) (BI 3 (R0 ((e0 ^^^ 2 ^ l) % 2 ^ d)))) (cpT (BD 1 (R0 ((e0 ^^^ 2 ^ l) % 2 ^ d))) (fun _ => 0) (BI 3 (R0 ((e0 ^^^ 2 ^ l) % 2 ^ d))))) (fun q => P q ∨ q = sz) := by
  obtain ⟨hv, hn, hh⟩ := h
  have hp := Nat.two_pow_pos d
  have he0 : e0 < 2 ^ d := by rw [he]; exact Nat.mod_lt _ hp
  have he1 : (e0 ^^^ 2 ^ l) % 2 ^ d < 2 ^ d := Nat.mod_lt _ hp
  have hld : l + 1 ≤ d := by have := (hv.1 e0 he0).2.1; omega
  have hbud : ((e0 ^^^ 2 ^ l) % 2 ^ d) % 2 ^ (l + 1) = e0 % 2 ^ l + 2 ^ l * (1 - e0 / 2 ^ l % 2) := by
    rw [Nat.mod_mod_of_dvd _ (Nat.pow_dvd_pow 2 hld), xorflip]
  generalize (e0 ^^^ 2 ^ l) % 2 ^ d = e1 at *
  have hre : r % 2 ^ l = e0 % 2 ^ l := by rw [he, Nat.mod_mod_of_dvd _ (Nat.pow_dvd_pow 2 (by omega : l ≤ d))]
  have hR' : ∀ e, e < 2 ^ d → entR R0 (2 ^ d) sz l r e = if e % 2 ^ l = e0 % 2 ^ l then sz else R0 e := fun e he => by
    unfold entR
    rw [hre]
    by_cases hm : e % 2 ^ l = e0 % 2 ^ l
    · rw [if_pos ⟨he, hm⟩, if_pos hm]
    · rw [if_neg (fun q => hm q.2), if_neg hm]
  have hL' : ∀ e, e < 2 ^ d → setN N (2 ^ d) e0 l l 0 e = if e % 2 ^ l = e0 % 2 ^ l then l else N 0 e := fun e he => by
    rw [setN_0a]
    by_cases hm : e % 2 ^ l = e0 % 2 ^ l
    · rw [if_pos ⟨he, hm⟩, if_pos hm]
    · rw [if_neg (fun q => hm q.2), if_neg hm]
  have hH' : ∀ e, e < 2 ^ d → setN N (2 ^ d) e0 l l 1 e = if e % 2 ^ l = e0 % 2 ^ l then 0 else N 1 e := fun e he => by
    rw [setN_1a]
    by_cases hm : e % 2 ^ l = e0 % 2 ^ l
    · rw [if_pos ⟨he, hm⟩, if_pos hm]
    · rw [if_neg (fun q => hm q.2), if_neg hm]
  have hPs : ∀ e, e < 2 ^ d → R0 e ≠ sz := fun e he => by have := hsz _ (hv.1 e he).1; omega
  have i1 := @setI_self BI sz l (BI 3 (R0 e1)) 0
  refine ⟨?_, ?_, ?_⟩
  · refine hv.merge (c := sz) he0 hl he1 hl1 hbud hemp hR' hL' hH' hPs ?_ (fun q hq => Or.inl hq) (Or.inr rfl) ⟨i1.1, i1.2.2, i1.2.1⟩ ?_
    · intro e he j
      rw [setI_ne (hPs e he), setD_ne (hPs e he)]
      exact ⟨rfl, rfl⟩
    · rw [i1.2.1, setD_self.1, setD_self.2]
      refine kvl_congr fun i hi => ?_
      unfold cpT
      rw [if_pos hi, if_pos hi]
      exact ⟨rfl, rfl⟩
  · have hin : ∀ e, e < 2 ^ d → e % 2 ^ l = e0 % 2 ^ l → N 0 e = l + 1 := fun e he q => by
      rcases mod2c e l with h2 | h2 <;> rcases Nat.mod_two_eq_zero_or_one (e0 / 2 ^ l) with h3 | h3
      · have := (hv.cong he0 he (by rw [hl, mod2 e0 l, h3, h2, q]; omega)).2.1; omega
      · have := (hv.cong he1 he (by rw [hl1, hbud, h3, h2, q]; omega)).2.1; omega
      · have := (hv.cong he1 he (by rw [hl1, hbud, h3, h2, q]; omega)).2.1; omega
      · have := (hv.cong he0 he (by rw [hl, mod2 e0 l, h3, h2, q]; omega)).2.1; omega
    rw [hn, cntF_merge (e0 := e0) (by omega : l < d) hin hL']
    omega
  · refine hh.zero fun e he => ?_
    rw [hH' e he, hR' e he]
    by_cases hm : e % 2 ^ l = e0 % 2 ^ l
    · rw [if_pos hm]; exact Or.inl rfl
    · rw [if_neg hm, if_neg hm]; exact Or.inr ⟨rfl, rfl⟩
theorem LV.hv : ∀ {d : Nat}, LV B Z0 d n nb KK VV L H R0 BI BD P → LV B Z0 (hvD L d) n nb KK VV L H R0 BI BD P
  | 0, h => h
  | d + 1, h => by
    unfold hvD
    by_cases hq : anyD L (d + 1) (2 ^ (d + 1)) = true
    · rw [if_pos hq]; exact h
    · rw [if_neg hq]
      have hL : ∀ e, e < 2 ^ (d + 1) → L e ≤ d := fun e he => by
        have h1 := (h.1.1 e he).2.1
        have h2 : L e ≠ d + 1 := fun z => hq ((anyD_iff L (d + 1) _).mpr ⟨e, he, z⟩)
        omega
      exact LV.hv (d := d) ⟨h.1.halve hL, h.2.1.trans (cntF_half hL), h.2.2.halve⟩
theorem CHG.same {e0 : Nat} (hv : Vw d n KK VV L H R0 BI BD P) (he0 : e0 < 2 ^ d) (hz : BI 4 (R0 e0) = 0) : CHG d (L e0) e0 (BI 3 (R0 e0)) (R0 e0) (R0 e0) R0 R0 BI BI BD BD P P := by
  obtain ⟨a1, a2, a3, a4, a5, a6⟩ := hv.1 e0 he0
  refine ⟨fun e => ?_, Or.inl rfl, a1, ⟨a3, rfl, hz⟩, fun i _ => ⟨rfl, rfl⟩, fun q hq => ⟨hq, fun j => ⟨rfl, rfl⟩⟩⟩
  by_cases hm : e < 2 ^ d ∧ e % 2 ^ L e0 = e0 % 2 ^ L e0
  · rw [if_pos hm]; exact ((hv.cong he0 hm.1 hm.2.symm).1).symm
  · rw [if_neg hm]
theorem CHG.copy {e0 r : Nat} (hv : Vw d n KK VV L H R0 BI BD P) (he : e0 = r % 2 ^ d) (hsz : ∀ q, P q → q < sz) : CHG d (L e0) e0 (BI 3 (R0 e0)) (R0 e0) sz R0 (entR R0 (2 ^ d) sz (BI 0 (R0 e0)) r) BI (setI BI sz (BI 0 (R0 e0)) (BI 3 (R0 e0)) 0) BD (setD BD sz (cpT (BD 0 (R0 e0)) (fun _ => 0) (BI 3 (R0 e0))) (cpT (BD 1 (R0 e0)) (fun _ => 0) (BI 3 (R0 e0)))) P (fun q => P q ∨ q = sz) := by
  have hp := Nat.two_pow_pos d
  have he0 : e0 < 2 ^ d := by rw [he]; exact Nat.mod_lt _ hp
  obtain ⟨a1, a2, a3, a4, a5, a6⟩ := hv.1 e0 he0
  have hre : r % 2 ^ L e0 = e0 % 2 ^ L e0 := by
    have : (r % 2 ^ d) % 2 ^ L e0 = r % 2 ^ L e0 := Nat.mod_mod_of_dvd _ (Nat.pow_dvd_pow 2 a2)
    rw [← this, ← he]
  have hne : ∀ q, P q → q ≠ sz := fun q hq => by have := hsz q hq; omega
  have i1 := @setI_self BI sz (BI 0 (R0 e0)) (BI 3 (R0 e0)) 0
  refine ⟨fun e => ?_, Or.inr hne, Or.inr rfl, ⟨i1.1.trans a3, i1.2.1, i1.2.2⟩, fun i hi => ?_, fun q hq => ⟨Or.inl hq, fun j => ⟨setI_ne (hne q hq), setD_ne (hne q hq)⟩⟩⟩
  · unfold entR
    rw [a3, hre]
  · rw [setD_self.1, setD_self.2]
    unfold cpT
    rw [if_pos hi, if_pos hi]
    exact ⟨rfl, rfl⟩
/-- an old bucket that stands on its block is left alone -/
def OF (BI : Nat → Nat → Nat) (BD : Nat → Nat → Nat → Int32) (P : Nat → Prop) (BI1 : Nat → Nat → Nat) (BD1 : Nat → Nat → Nat → Int32) (P1 : Nat → Prop) : Prop :=
  ∀ q, P q → P1 q ∧ (BI 4 q ≠ 0 → ∀ j, BI1 j q = BI j q ∧ BD1 j q = BD j q)
theorem OF.rf : OF BI BD P BI BD P := fun q hq => ⟨hq, fun _ j => ⟨rfl, rfl⟩⟩
theorem OF.tr {BI2 : Nat → Nat → Nat} {BD2 : Nat → Nat → Nat → Int32} {P2 : Nat → Prop} (h1 : OF BI BD P BI1 BD1 P1) (h2 : OF BI1 BD1 P1 BI2 BD2 P2) : OF BI BD P BI2 BD2 P2 := fun q hq => by
  obtain ⟨a, b⟩ := h1 q hq
  obtain ⟨c, e⟩ := h2 q a
  refine ⟨c, fun hz j => ?_⟩
  have b1 := b hz
  have e1 := e (by rw [(b1 4).1]; exact hz) j
  exact ⟨e1.1.trans (b1 j).1, e1.2.trans (b1 j).2⟩
theorem OF.of (h : ∀ q, P q → P1 q ∧ ∀ j, BI1 j q = BI j q ∧ BD1 j q = BD j q) : OF BI BD P BI1 BD1 P1 := fun q hq => ⟨(h q hq).1, fun _ => (h q hq).2⟩
theorem OF.chg {l e0 cnt b c cn kk : Nat} {K1 U1 : Nat → Int32} (hg : CHG d l e0 cnt b c R0 R1 BI BI1 BD BD1 P P1) (hb : P b) : OF BI BD P (setI BI1 c l cn kk) (setD BD1 c K1 U1) P1 := fun q hq => by
  obtain ⟨g1, g2, g3, g4, g5, g6⟩ := hg
  refine ⟨(g6 q hq).1, fun hz j => ?_⟩
  have hne : q ≠ c := by
    rcases g2 with g2 | g2
    · intro e
      have h1 := ((g6 q hq).2 4).1
      rw [e, g4.2.2] at h1
      rw [e] at hz
      exact hz h1.symm
    · exact g2 q hq
  rw [setI_ne hne, setD_ne hne]
  exact (g6 q hq).2 j
end LVT
/-- keys that differ from k in their entry -/
theorem out_key {d n : Nat} {KK VV : Nat → Int32} {L H R0 : Nat → Nat} {BI : Nat → Nat → Nat} {BD : Nat → Nat → Nat → Int32} {P : Nat → Prop} (hv : Vw d n KK VV L H R0 BI BD P) {k : Int32} {e : Nat} (he : e < 2 ^ d) (hm : ¬ e % 2 ^ L (hx k % 2 ^ d) = (hx k % 2 ^ d) % 2 ^ L (hx k % 2 ^ d)) : ¬ hx k % 2 ^ L e = e % 2 ^ L e := by
  intro q
  have hp := Nat.two_pow_pos d
  have he0 : hx k % 2 ^ d < 2 ^ d := Nat.mod_lt _ hp
  have h1 : (hx k % 2 ^ d) % 2 ^ L e = hx k % 2 ^ L e := Nat.mod_mod_of_dvd _ (Nat.pow_dvd_pow 2 (hv.1 e he).2.1)
  have h2 : e % 2 ^ L e = (hx k % 2 ^ d) % 2 ^ L e := by rw [h1, q]
  have h3 := (hv.cong he he0 h2).2.1
  rw [h3] at h2
  exact hm h2
theorem in_key {d n : Nat} {KK VV : Nat → Int32} {L H R0 : Nat → Nat} {BI : Nat → Nat → Nat} {BD : Nat → Nat → Nat → Int32} {P : Nat → Prop} (hv : Vw d n KK VV L H R0 BI BD P) (k : Int32) : hx k % 2 ^ L (hx k % 2 ^ d) = (hx k % 2 ^ d) % 2 ^ L (hx k % 2 ^ d) :=
  (Nat.mod_mod_of_dvd _ (Nat.pow_dvd_pow 2 (hv.1 _ (Nat.mod_lt _ (Nat.two_pow_pos d))).2.1)).symm
section LVU
variable {B d n m nb : Nat} {Z0 : Nat → Bool} {KK VV : Nat → Int32} {N : Nat → Nat → Nat} {R0 R1 : Nat → Nat} {BI BI1 : Nat → Nat → Nat} {BD BD1 : Nat → Nat → Nat → Int32} {P P1 : Nat → Prop} {k v : Int32} {c : Nat}
theorem filter_swap (f g : Int32 × Int32 → Bool) (X : List (Int32 × Int32)) : (X.filter f).filter g = (X.filter g).filter f := by
  rw [List.filter_filter, List.filter_filter]
  exact List.filter_congr fun q _ => Bool.and_comm _ _
theorem LV.rem (h : LV B Z0 d (m + 1) nb KK VV (N 0) (N 1) R0 BI BD P) (hn : NdF KK (m + 1)) (hf : fnd KK k (m + 1) 0 < m + 1) (hg : CHG d (N 0 (hx k % 2 ^ d)) (hx k % 2 ^ d) (BI 3 (R0 (hx k % 2 ^ d))) (R0 (hx k % 2 ^ d)) c R0 R1 BI BI1 BD BD1 P P1) :
    LV B Z0 d m nb (upd KK (fnd KK k (m + 1) 0) (KK m)) (upd VV (fnd KK k (m + 1) 0) (VV m)) (setN N (2 ^ d) (hx k % 2 ^ d) (N 0 (hx k % 2 ^ d)) (N 0 (hx k % 2 ^ d)) 0) (setN N (2 ^ d) (hx k % 2 ^ d) (N 0 (hx k % 2 ^ d)) (N 0 (hx k % 2 ^ d)) 1) R1
      (setI BI1 c (N 0 (hx k % 2 ^ d)) (BI 3 (R0 (hx k % 2 ^ d)) - 1) 0) (setD BD1 c (upd (BD1 0 c) (fnd (BD 0 (R0 (hx k % 2 ^ d))) k (BI 3 (R0 (hx k % 2 ^ d))) 0) (BD1 0 c (BI 3 (R0 (hx k % 2 ^ d)) - 1))) (upd (BD1 1 c) (fnd (BD 0 (R0 (hx k % 2 ^ d))) k (BI 3 (R0 (hx k % 2 ^ d))) 0) (BD1 1 c (BI 3 (R0 (hx k % 2 ^ d)) - 1)))) P1 := by
  have hv := h.1
  have he0 : hx k % 2 ^ d < 2 ^ d := Nat.mod_lt _ (Nat.two_pow_pos d)
  obtain ⟨a1, a2, a3, a4, a5, a6⟩ := hv.1 _ he0
  have hk := in_key hv k
  have hperm := kvl_rem (V := VV) hf (fnd_key hf) hn
  have hbf : fnd (BD 0 (R0 (hx k % 2 ^ d))) k (BI 3 (R0 (hx k % 2 ^ d))) 0 < BI 3 (R0 (hx k % 2 ^ d)) := (bkt_find a6 hk).mpr hf
  have hg5 := hg.2.2.2.2.1
  refine h.put he0 hg (by omega) ?_ (fun e he hm => ?_)
  · generalize hb : R0 (hx k % 2 ^ d) = b at *
    obtain ⟨c1, hc1⟩ : ∃ c1, BI 3 b = c1 + 1 := ⟨BI 3 b - 1, by omega⟩
    rw [hc1] at a6 hbf hg5 ⊢
    rw [Nat.add_sub_cancel]
    have e1 : kvl (BD1 0 c) (BD1 1 c) (c1 + 1) = kvl (BD 0 b) (BD 1 b) (c1 + 1) := kvl_congr hg5
    have e2 : NdF (BD1 0 c) (c1 + 1) := by
      refine ndF_perm (V' := BD1 1 c) (f := fun _ => true) (K := BD 0 b) (V := BD 1 b) (n := c1 + 1) ?_ (ndF_perm a6 hn)
      rw [e1, List.filter_eq_self.mpr (fun _ _ => rfl)]
    refine (kvl_rem (k := k) (V := BD1 1 c) hbf (by rw [(hg5 _ hbf).1]; exact fnd_key hbf) e2).trans ?_
    rw [e1]
    refine (a6.filter _).trans ?_
    rw [filter_swap]
    exact (hperm.filter _).symm
  · refine List.Perm.trans ?_ (hperm.filter _).symm
    have e3 : ((kvl KK VV (m + 1)).filter (inB (N 0 e) e)).filter (neK k) = (kvl KK VV (m + 1)).filter (inB (N 0 e) e) := by
      rw [List.filter_eq_self]
      intro q hq
      have h1 := (List.mem_filter.mp hq).2
      unfold inB at h1
      rw [decide_eq_true_eq] at h1
      unfold neK
      rw [decide_eq_true_eq]
      intro hqk
      rw [hqk] at h1
      exact out_key hv he hm h1
    rw [filter_swap, e3]
theorem map_out {e l : Nat} {X : List (Int32 × Int32)} (h : ¬ hx k % 2 ^ l = e % 2 ^ l) : (X.filter (inB l e)).map (chV k v) = X.filter (inB l e) := by
  have : ∀ q ∈ X.filter (inB l e), chV k v q = q := by
    intro q hq
    have h1 := (List.mem_filter.mp hq).2
    unfold inB at h1
    rw [decide_eq_true_eq] at h1
    unfold chV
    rw [if_neg]
    intro hqk
    rw [hqk] at h1
    exact h h1
  calc (X.filter (inB l e)).map (chV k v) = (X.filter (inB l e)).map (fun q => q) := List.map_congr_left this
    _ = X.filter (inB l e) := List.map_id' _
theorem LV.old (h : LV B Z0 d n nb KK VV (N 0) (N 1) R0 BI BD P) (hn : NdF KK n) (hf : fnd KK k n 0 < n) (hg : CHG d (N 0 (hx k % 2 ^ d)) (hx k % 2 ^ d) (BI 3 (R0 (hx k % 2 ^ d))) (R0 (hx k % 2 ^ d)) c R0 R1 BI BI1 BD BD1 P P1) :
    fnd (BD1 0 c) k (BI 3 (R0 (hx k % 2 ^ d))) 0 < BI 3 (R0 (hx k % 2 ^ d)) ∧ LV B Z0 d n nb KK (upd VV (fnd KK k n 0) v) (setN N (2 ^ d) (hx k % 2 ^ d) (N 0 (hx k % 2 ^ d)) (N 0 (hx k % 2 ^ d)) 0) (setN N (2 ^ d) (hx k % 2 ^ d) (N 0 (hx k % 2 ^ d)) (N 0 (hx k % 2 ^ d)) 1) R1
      (setI BI1 c (N 0 (hx k % 2 ^ d)) (BI 3 (R0 (hx k % 2 ^ d))) 0) (setD BD1 c (BD1 0 c) (upd (BD1 1 c) (fnd (BD1 0 c) k (BI 3 (R0 (hx k % 2 ^ d))) 0) v)) P1 := by
  have hv := h.1
  have he0 : hx k % 2 ^ d < 2 ^ d := Nat.mod_lt _ (Nat.two_pow_pos d)
  obtain ⟨a1, a2, a3, a4, a5, a6⟩ := hv.1 _ he0
  have hk := in_key hv k
  have hg5 := hg.2.2.2.2.1
  generalize hb : R0 (hx k % 2 ^ d) = b at *
  have e1 : kvl (BD1 0 c) (BD1 1 c) (BI 3 b) = kvl (BD 0 b) (BD 1 b) (BI 3 b) := kvl_congr hg5
  have a7 := a6
  rw [← e1] at a7
  have hbf : fnd (BD1 0 c) k (BI 3 b) 0 < BI 3 b := (bkt_find a7 hk).mpr hf
  have hnb : NdF (BD1 0 c) (BI 3 b) := ndF_perm a7 hn
  have hch := kvl_chg (V := VV) (p := fnd KK k n 0) (k := k) (v := v) (n := n) (K := KK) (fun i hi => ⟨fun q => (fnd_uniq hn hi q).symm, fun q => by rw [q]; exact fnd_key hf⟩)
  refine ⟨hbf, ?_⟩
  rw [← hb] at hg
  have hg' := hg
  refine h.put he0 hg (by rw [← hb] at a5 ⊢; exact a5) ?_ (fun e he hm => ?_)
  · rw [kvl_chg (V := BD1 1 c) (p := fnd (BD1 0 c) k (BI 3 b) 0) (k := k) (v := v) (n := BI 3 b) (K := BD1 0 c) (fun i hi => ⟨fun q => (fnd_uniq hnb hi q).symm, fun q => by rw [q]; exact fnd_key hbf⟩), hch, inB_chV]
    exact a7.map _
  · rw [hch, inB_chV, map_out (out_key hv he hm)]
theorem LV.new (h : LV B Z0 d n nb KK VV (N 0) (N 1) R0 BI BD P) (hf : ¬ fnd KK k n 0 < n) (hc15 : BI 3 (R0 (hx k % 2 ^ d)) < 15) (hg : CHG d (N 0 (hx k % 2 ^ d)) (hx k % 2 ^ d) (BI 3 (R0 (hx k % 2 ^ d))) (R0 (hx k % 2 ^ d)) c R0 R1 BI BI1 BD BD1 P P1) :
    ¬ fnd (BD1 0 c) k (BI 3 (R0 (hx k % 2 ^ d))) 0 < BI 3 (R0 (hx k % 2 ^ d)) ∧ LV B Z0 d (n + 1) nb (upd KK n k) (upd VV n v) (setN N (2 ^ d) (hx k % 2 ^ d) (N 0 (hx k % 2 ^ d)) (N 0 (hx k % 2 ^ d)) 0) (setN N (2 ^ d) (hx k % 2 ^ d) (N 0 (hx k % 2 ^ d)) (N 0 (hx k % 2 ^ d)) 1) R1
      (setI BI1 c (N 0 (hx k % 2 ^ d)) (BI 3 (R0 (hx k % 2 ^ d)) + 1) 0) (setD BD1 c (upd (BD1 0 c) (BI 3 (R0 (hx k % 2 ^ d))) k) (upd (BD1 1 c) (BI 3 (R0 (hx k % 2 ^ d))) v)) P1 := by
  have hv := h.1
  have he0 : hx k % 2 ^ d < 2 ^ d := Nat.mod_lt _ (Nat.two_pow_pos d)
  obtain ⟨a1, a2, a3, a4, a5, a6⟩ := hv.1 _ he0
  have hk := in_key hv k
  have hg5 := hg.2.2.2.2.1
  generalize hb : R0 (hx k % 2 ^ d) = b at *
  have e1 : kvl (BD1 0 c) (BD1 1 c) (BI 3 b) = kvl (BD 0 b) (BD 1 b) (BI 3 b) := kvl_congr hg5
  have a7 := a6
  rw [← e1] at a7
  refine ⟨fun q => hf ((bkt_find a7 hk).mp q), ?_⟩
  rw [← hb] at hg
  refine h.put he0 hg (by omega) ?_ (fun e he hm => ?_)
  · rw [kvl_app, kvl_app, List.filter_append]
    refine List.Perm.append a7 ?_
    rw [List.filter_cons, if_pos (by unfold inB; rw [decide_eq_true_eq]; exact hk)]
    exact List.Perm.refl _
  · rw [kvl_app, List.filter_append, List.filter_cons, if_neg (by unfold inB; rw [decide_eq_true_eq]; exact out_key hv he hm)]
    rw [List.filter_nil, List.append_nil]
end LVU
/-! how far a full bucket splits -/
theorem xor_zero_iff {a b : Nat} : a ^^^ b = 0 ↔ a = b := by
  constructor
  · intro h
    have h1 : (a ^^^ b) ^^^ b = b := by rw [h, Nat.zero_xor]
    rw [Nat.xor_assoc, Nat.xor_self, Nat.xor_zero] at h1
    exact h1
  · intro h; rw [h, Nat.xor_self]
theorem dif_spec (K : Nat → Int32) (m : Int32) (β : Nat) : ∀ c, tn (dif K m c) % 2 ^ β = 0 ↔ ∀ i, i < c → hx (K i) % 2 ^ β = tn m % 2 ^ β
  | 0 => by
    constructor
    · intro _ i hi; omega
    · intro _
      show tn (nI 0) % 2 ^ β = 0
      rw [tn_nI (by omega), Nat.zero_mod]
  | c + 1 => by
    have ih := dif_spec K m β c
    show tn (dif K m c ||| (mx (K c) ^^^ m)) % 2 ^ β = 0 ↔ _
    rw [tn_or, Nat.or_mod_two_pow, Nat.or_eq_zero_iff, ih, tn_xor, Nat.xor_mod_two_pow, xor_zero_iff]
    constructor
    · rintro ⟨h1, h2⟩ i hi
      by_cases hic : i = c
      · rw [hic]; exact h2
      · exact h1 i (by omega)
    · intro h
      exact ⟨fun i hi => h i (by omega), h c (by omega)⟩
theorem tz_all {x β : Nat} (hb : β ≤ 32) : x % 2 ^ β = 0 ↔ β ≤ tz x := by
  by_cases h : 0 < x
  · exact tz_dvd h
  · have hx0 : x = 0 := by omega
    subst hx0
    have : tz 0 = 32 := by unfold tz; rw [dif_neg (by omega)]
    rw [this, Nat.zero_mod]
    exact ⟨fun _ => hb, fun _ => rfl⟩
section LVD
variable {d n : Nat} {K N : Nat → Nat → Int32} {KK VV : Nat → Int32} {L H R0 : Nat → Nat} {BI : Nat → Nat → Nat} {BD : Nat → Nat → Nat → Int32} {P : Nat → Prop} {k : Int32}
theorem cnt_bkt (hv : Vw d n KK VV L H R0 BI BD P) : cnt KK (hx k) (L (hx k % 2 ^ d)) n = BI 3 (R0 (hx k % 2 ^ d)) := by
  have he0 : hx k % 2 ^ d < 2 ^ d := Nat.mod_lt _ (Nat.two_pow_pos d)
  have a6 := (hv.1 _ he0).2.2.2.2.2
  rw [cnt_len KK VV, inB_mod (in_key hv k), ← a6.length_eq, kvl_len]
theorem cnt_ent (hv : Vw d n KK VV L H R0 BI BD P) {e : Nat} (he : e < 2 ^ d) : cnt KK e (L e) n = BI 3 (R0 e) := by
  rw [cnt_len KK VV, ← (hv.1 _ he).2.2.2.2.2.length_eq, kvl_len]
theorem full_iff (hv : Vw d n KK VV L H R0 BI BD P) (h15 : BI 3 (R0 (hx k % 2 ^ d)) = 15) {β : Nat} (hb : L (hx k % 2 ^ d) ≤ β) (hb2 : β ≤ 32) : 15 ≤ cnt KK (hx k) β n ↔ β ≤ tz (tn (dif (BD 0 (R0 (hx k % 2 ^ d))) (mx k) 15)) := by
  have he0 : hx k % 2 ^ d < 2 ^ d := Nat.mod_lt _ (Nat.two_pow_pos d)
  have a6 := (hv.1 _ he0).2.2.2.2.2
  rw [h15] at a6
  have hk := in_key hv k
  generalize R0 (hx k % 2 ^ d) = b at *
  rw [← tz_all hb2, dif_spec, cnt_len KK VV]
  have e1 : (kvl KK VV n).filter (inB β (hx k)) = ((kvl KK VV n).filter (inB (L (hx k % 2 ^ d)) (hx k % 2 ^ d))).filter (inB β (hx k)) := by
    rw [List.filter_filter]
    refine List.filter_congr fun q _ => ?_
    rw [Bool.eq_iff_iff, Bool.and_eq_true]
    unfold inB
    rw [decide_eq_true_eq, decide_eq_true_eq]
    exact ⟨fun z => ⟨z, (modle hb z).trans hk⟩, fun z => z.1⟩
  rw [e1, ← (a6.filter (inB β (hx k))).length_eq]
  have hle := List.length_filter_le (inB β (hx k)) (kvl (BD 0 b) (BD 1 b) 15)
  have hlen := kvl_len (BD 0 b) (BD 1 b) 15
  constructor
  · intro h i hi
    have h1 : ((kvl (BD 0 b) (BD 1 b) 15).filter (inB β (hx k))).length = (kvl (BD 0 b) (BD 1 b) 15).length := by omega
    have h2 := List.length_filter_eq_length_iff.mp h1 (BD 0 b i, BD 1 b i) (kvl_mem.mpr ⟨i, hi, rfl⟩)
    unfold inB at h2
    rw [decide_eq_true_eq] at h2
    exact h2
  · intro h
    have h1 : ((kvl (BD 0 b) (BD 1 b) 15).filter (inB β (hx k))).length = (kvl (BD 0 b) (BD 1 b) 15).length := by
      rw [List.length_filter_eq_length_iff]
      intro q hq
      obtain ⟨i, hi, hqi⟩ := kvl_mem.mp hq
      unfold inB
      rw [decide_eq_true_eq, hqi]
      exact h i hi
    omega
end LVD
theorem stp_eq {K : Nat → Int32} {r n t b0 : Nat} (hb : ∀ β, b0 ≤ β → β ≤ 9 → (15 ≤ cnt K r β n ↔ β ≤ t)) : ∀ f b, b0 ≤ b → b ≤ 9 → b ≤ t + 1 → 9 ≤ b + f → stp K r n f b = min (t + 1) 9
  | 0, b, h1, h2, h3, h4 => by
    unfold stp
    omega
  | f + 1, b, h1, h2, h3, h4 => by
    unfold stp
    have h5 := hb b h1 h2
    by_cases hq : b < 9 ∧ 15 ≤ cnt K r b n
    · rw [if_pos hq]
      have := h5.mp hq.2
      exact stp_eq hb f (b + 1) (by omega) (by omega) (by omega) (by omega)
    · rw [if_neg hq]
      by_cases h9 : b < 9
      · have : ¬ b ≤ t := fun z => hq ⟨h9, h5.mpr z⟩
        omega
      · omega
theorem tgB_full {F : Nat → Nat} {K : Nat → Nat → Int32} {N : Nat → Nat → Nat} {R0 : Nat → Nat} {BI : Nat → Nat → Nat} {BD : Nat → Nat → Nat → Int32} {P : Nat → Prop} {k : Int32} (hv : Vw (F 6) (F 5) (K 0) (K 1) (N 0) (N 1) R0 BI BD P) (hd : F 6 ≤ 8) (h15 : BI 3 (R0 (hx k % 2 ^ F 6)) = 15) :
    eb F N k ≤ tz (tn (dif (BD 0 (R0 (hx k % 2 ^ F 6))) (mx k) 15)) ∧ tgB F K N k = min (tz (tn (dif (BD 0 (R0 (hx k % 2 ^ F 6))) (mx k) 15)) + 1) 9 := by
  have he0 : hx k % 2 ^ F 6 < 2 ^ F 6 := Nat.mod_lt _ (Nat.two_pow_pos _)
  have hle : eb F N k ≤ F 6 := (hv.1 _ he0).2.1
  have h1 : 15 ≤ cnt (K 0) (hx k) (eb F N k) (F 5) := by rw [show cnt (K 0) (hx k) (eb F N k) (F 5) = _ from cnt_bkt hv, h15]; exact Nat.le_refl _
  have h2 := (full_iff hv h15 (β := eb F N k) (Nat.le_refl _) (by omega)).mp h1
  refine ⟨h2, ?_⟩
  unfold tgB
  exact stp_eq (b0 := eb F N k) (fun β hb h9 => full_iff hv h15 hb (by omega)) 10 _ (Nat.le_refl _) (by omega) (by omega) (by omega)
theorem tgB_room {F : Nat → Nat} {K : Nat → Nat → Int32} {N : Nat → Nat → Nat} {R0 : Nat → Nat} {BI : Nat → Nat → Nat} {BD : Nat → Nat → Nat → Int32} {P : Nat → Prop} {k : Int32} (hv : Vw (F 6) (F 5) (K 0) (K 1) (N 0) (N 1) R0 BI BD P) (h15 : BI 3 (R0 (hx k % 2 ^ F 6)) < 15) : tgB F K N k = eb F N k := by
  have h1 : cnt (K 0) (hx k) (eb F N k) (F 5) < 15 := by rw [show cnt (K 0) (hx k) (eb F N k) (F 5) = _ from cnt_bkt hv]; exact h15
  unfold tgB
  unfold stp
  rw [if_neg (fun q => absurd q.2 (by omega))]
theorem itP_fix (F : Nat → Nat) (N : Nat → Nat → Nat) (k : Int32) (i : Nat) (hi : i ≠ 6) : ∀ j, (itP F N k j).1 i = F i
  | 0 => rfl
  | j + 1 => by
    have ih := itP_fix F N k i hi j
    show spF _ _ k i = _
    unfold spF
    split
    · rw [va_up_ne _ _ hi]; exact ih
    · exact ih
theorem spN_2 (F : Nat → Nat) (N : Nat → Nat → Nat) (k : Int32) (i : Nat) (hi : 2 ≤ i) : spN F N k i = N i := by
  unfold spN
  rw [setN_2a _ _ _ _ _ i hi]
  unfold spM
  split
  · exact dblN_2 _ _ i hi
  · rfl
theorem itP_2 (F : Nat → Nat) (N : Nat → Nat → Nat) (k : Int32) (i : Nat) (hi : 2 ≤ i) : ∀ j, (itP F N k j).2 i = N i
  | 0 => rfl
  | j + 1 => by
    show spN _ _ k i = _
    rw [spN_2 _ _ k i hi]
    exact itP_2 F N k i hi j
theorem spN_eb (F : Nat → Nat) (N : Nat → Nat → Nat) (k : Int32) : eb (spF F N k) (spN F N k) k = eb F N k + 1 := by
  unfold eb
  rw [show spN F N k 0 (hx k % 2 ^ spF F N k 6) = setN (spM F N k) (2 ^ spF F N k 6) (hx k % 2 ^ spF F N k 6) (eb F N k) (eb F N k + 1) 0 (hx k % 2 ^ spF F N k 6) from rfl, setN_0a, if_pos ⟨Nat.mod_lt _ (Nat.two_pow_pos _), rfl⟩]
  rfl
theorem itP_eb {F : Nat → Nat} {N : Nat → Nat → Nat} {k : Int32} (h : eb F N k ≤ F 6) : ∀ j, eb (itP F N k j).1 (itP F N k j).2 k = eb F N k + j ∧ (itP F N k j).1 6 = max (F 6) (eb F N k + j)
  | 0 => ⟨rfl, by show F 6 = _; omega⟩
  | j + 1 => by
    obtain ⟨h1, h2⟩ := itP_eb h j
    refine ⟨?_, ?_⟩
    · show eb (spF _ _ k) (spN _ _ k) k = _
      rw [spN_eb, h1, Nat.add_assoc]
    · show spF _ _ k 6 = _
      unfold spF
      rw [h1, h2]
      by_cases q : eb F N k + j = max (F 6) (eb F N k + j)
      · rw [if_pos q, va_up_self]; omega
      · rw [if_neg q, h2]; omega
