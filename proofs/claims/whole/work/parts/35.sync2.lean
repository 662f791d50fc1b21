theorem stF_iff (Hs : Nat → Nat) (S0 : Nat → Bool) (b : Nat) : ∀ n, stF Hs S0 n b = true ↔ S0 b = true ∨ ∃ e, e < n ∧ Hs e = b
  | 0 => by
    show S0 b = true ↔ _
    constructor
    · exact Or.inl
    · rintro (h | ⟨e, he, -⟩)
      · exact h
      · omega
  | n + 1 => by
    have ih := stF_iff Hs S0 b n
    show va_up (stF Hs S0 n) (Hs n) true b = true ↔ _
    by_cases hb : b = Hs n
    · subst hb
      rw [va_up_self]
      exact ⟨fun _ => Or.inr ⟨n, by omega, rfl⟩, fun _ => rfl⟩
    · rw [va_up_ne _ _ hb, ih]
      constructor
      · rintro (h | ⟨e, he, hq⟩)
        · exact Or.inl h
        · exact Or.inr ⟨e, by omega, hq⟩
      · rintro (h | ⟨e, he, hq⟩)
        · exact Or.inl h
        · by_cases hen : e = n
          · subst hen; exact absurd hq.symm hb
          · exact Or.inr ⟨e, by omega, hq⟩
theorem stC_val {L H : Nat → Nat} {n : Nat} (hL : ∀ e, e < n → L (e % 2 ^ L e) = L e) : ∀ m, m ≤ n → ∀ j, stC L H m j = if j < m then H (j % 2 ^ L j) else H j
  | 0, _, j => by rw [if_neg (by omega)]; rfl
  | m + 1, hm, j => by
    have ih := stC_val (H := H) hL m (by omega)
    show va_up (stC L H m) m (stC L H m (m % 2 ^ L m)) j = _
    by_cases hj : j = m
    · subst hj
      rw [va_up_self, if_pos (by omega), ih]
      by_cases hf : j % 2 ^ L j < j
      · rw [if_pos hf, hL j (by omega), Nat.mod_mod]
      · rw [if_neg hf]
    · rw [va_up_ne _ _ hj, ih]
      by_cases hjm : j < m
      · rw [if_pos hjm, if_pos (by omega)]
      · rw [if_neg hjm, if_neg (by omega)]
def ufs (L Hs : Nat → Nat) : Nat → (Nat → Bool)
  | 0 => fun _ => false
  | e + 1 => if e % 2 ^ L e = e then va_up (ufs L Hs e) (Hs e) true else ufs L Hs e
theorem ufs_iff (L Hs : Nat → Nat) (b : Nat) : ∀ e, ufs L Hs e b = true ↔ ∃ f, f < e ∧ f % 2 ^ L f = f ∧ Hs f = b
  | 0 => by
    constructor
    · intro h; cases h
    · rintro ⟨f, hf, -⟩; omega
  | e + 1 => by
    have ih := ufs_iff L Hs b e
    unfold ufs
    by_cases hf : e % 2 ^ L e = e
    · rw [if_pos hf]
      by_cases hb : b = Hs e
      · subst hb
        rw [va_up_self]
        exact ⟨fun _ => ⟨e, by omega, hf, rfl⟩, fun _ => rfl⟩
      · rw [va_up_ne _ _ hb, ih]
        constructor
        · rintro ⟨f, h1, h2, h3⟩; exact ⟨f, by omega, h2, h3⟩
        · rintro ⟨f, h1, h2, h3⟩
          by_cases hfe : f = e
          · subst hfe; exact absurd h3.symm hb
          · exact ⟨f, by omega, h2, h3⟩
    · rw [if_neg hf, ih]
      constructor
      · rintro ⟨f, h1, h2, h3⟩; exact ⟨f, by omega, h2, h3⟩
      · rintro ⟨f, h1, h2, h3⟩
        by_cases hfe : f = e
        · subst hfe; exact absurd h2 hf
        · exact ⟨f, by omega, h2, h3⟩
theorem cntE_zero : ∀ n, cntE (fun _ => false) n = n
  | 0 => rfl
  | n + 1 => by rw [cntE, if_neg (by decide), cntE_zero n]
theorem cnt_ufs {L Hs : Nat → Nat} {n : Nat} : ∀ {e : Nat}, (∀ f, f < e → f % 2 ^ L f = f → 2 ≤ Hs f ∧ Hs f < n + 2) → (∀ f f', f < e → f' < e → f % 2 ^ L f = f → f' % 2 ^ L f' = f' → Hs f = Hs f' → f = f') → cntE (ufs L Hs e) n + cntF L e = n
  | 0, _, _ => cntE_zero n
  | e + 1, h1, h2 => by
    have ih := cnt_ufs (L := L) (Hs := Hs) (n := n) (e := e) (fun f hf => h1 f (by omega)) (fun f f' hf hf' => h2 f f' (by omega) (by omega))
    unfold ufs
    rw [cntF]
    by_cases hf : e % 2 ^ L e = e
    · rw [if_pos hf, if_pos hf]
      have h3 := h1 e (by omega) hf
      have h4 : ufs L Hs e (Hs e) = false := by
        cases hq : ufs L Hs e (Hs e) with
        | false => rfl
        | true =>
          obtain ⟨f, p1, p2, p3⟩ := (ufs_iff L Hs (Hs e) e).mp hq
          have := h2 f e (by omega) (by omega) p2 hf p3
          omega
      have h5 := cntE_up (S := ufs L Hs e) h3.1 h4 h3.2
      omega
    · rw [if_neg hf, if_neg hf]; exact ih
def udr (U : Nat → Bool) (Dn : Nat → Nat) : Nat → (Nat → Bool)
  | 0 => U
  | k + 1 => va_up (udr U Dn k) (Dn k) true
theorem udr_iff (U : Nat → Bool) (Dn : Nat → Nat) (b : Nat) (k : Nat) : udr U Dn k b = true ↔ U b = true ∨ ∃ i, i < k ∧ Dn i = b := by
  have e : udr U Dn k = stF Dn U k := by
    induction k with
    | zero => rfl
    | succ k ih => show va_up _ _ _ = va_up _ _ _; rw [ih]
  rw [e]
  exact stF_iff Dn U b k
theorem cnt_udr {U : Nat → Bool} {Dn : Nat → Nat} {n : Nat} : ∀ {k : Nat}, (∀ i, i < k → 2 ≤ Dn i ∧ Dn i < n + 2 ∧ U (Dn i) = false) → (∀ i i', i < k → i' < k → Dn i = Dn i' → i = i') → cntE (udr U Dn k) n + k = cntE U n
  | 0, _, _ => rfl
  | k + 1, h1, h2 => by
    have ih := cnt_udr (U := U) (Dn := Dn) (n := n) (k := k) (fun i hi => h1 i (by omega)) (fun i i' hi hi' => h2 i i' (by omega) (by omega))
    have h3 := h1 k (by omega)
    have h4 : udr U Dn k (Dn k) = false := by
      cases hq : udr U Dn k (Dn k) with
      | false => rfl
      | true =>
        rcases (udr_iff U Dn (Dn k) k).mp hq with p | ⟨i, p1, p2⟩
        · rw [h3.2.2] at p; cases p
        · have := h2 i k (by omega) (by omega) p2
          omega
    have h5 := cntE_up (S := udr U Dn k) h3.1 h4 h3.2.1
    show cntE (va_up (udr U Dn k) (Dn k) true) n + (k + 1) = _
    omega
/-- a master, seen from both sides -/
def MAS (B m dO nO : Nat) (S R DB BI : Nat → Nat → Nat) (BD : Nat → Nat → Nat → Int32) (P : Nat → Prop) (K2 K3 : Nat → Int32) (N2 N3 : Nat → Nat) (Z0 : Nat → Bool) : Prop :=
  (S m 2 = dO ∧ S m 3 = cntF N2 (2 ^ dO) ∧ S m 4 = nO ∧ Vw dO nO K2 K3 N2 N3 (R m) BI BD P ∧ NdF K2 nO) ∧ (∀ e, e < 2 ^ dO → 2 ≤ N3 e ∧ N3 e < B) ∧ (∀ e e', e < 2 ^ dO → e' < 2 ^ dO → N3 e = N3 e' → R m e = R m e') ∧
  (∀ b, 2 ≤ b → b < B → (Z0 b = true ↔ (∃ e, e < 2 ^ dO ∧ N3 e = b) ∨ ∃ i, i < drB dO ∧ DB m i = b)) ∧ (∀ i, i < drB dO → DB m i < B) ∧ cntE Z0 (B - 2) + cntF N2 (2 ^ dO) + drB dO = B - 2
def RR (c : Nat) (A : Nat → Nat) (S R DB BI : Nat → Nat → Nat) (BD : Nat → Nat → Nat → Int32) (P : Nat → Prop) (F : Nat → Nat) (K : Nat → Nat → Int32) (N : Nat → Nat → Nat) (Z : Nat → Nat → Bool) : Prop :=
  (A 0 = F 1 ∧ A 1 = F 2 ∧ A 6 = F 20 ∧ A 7 = F 19 ∧ A 8 = F 18) ∧ (F 0 = 0 ∧ F 17 ≤ 1 ∧ F 18 ≤ 1 ∧ F 20 ≤ 300 * c ∧ F 5 ≤ c ∧ F 11 ≤ c ∧ F 6 ≤ 8 ∧ ∀ e, e < 2 ^ F 6 → N 0 e ≤ 8) ∧
  MAS (F 1) (1 + A 5) (F 12) (F 11) S R DB BI BD P (K 2) (K 3) (N 2) (N 3) (Z 0) ∧
  (F 18 = 0 → S 0 2 = F 6 ∧ S 0 4 = F 5 ∧ LV (F 1) (Z 0) (F 6) (F 5) (S 0 3) (K 0) (K 1) (N 0) (N 1) (R 0) BI BD P ∧ NdF (K 0) (F 5) ∧ (F 17 = 1 ↔ ∃ e, e < 2 ^ F 6 ∧ N 1 e = 0)) ∧
  (∀ b, BI 4 b < 2 ^ 31) ∧ (∀ j, j < 3 → S j 2 ≤ A 1)
theorem MAS.frame {B m dO nO : Nat} {S R DB BI S' R' DB' BI' : Nat → Nat → Nat} {BD BD' : Nat → Nat → Nat → Int32} {P P' : Nat → Prop} {K2 K3 : Nat → Int32} {N2 N3 : Nat → Nat} {Z0 : Nat → Bool} (h : MAS B m dO nO S R DB BI BD P K2 K3 N2 N3 Z0) (hS : S' m = S m) (hR : R' m = R m) (hD : DB' m = DB m) (ho : OF BI BD P BI' BD' P') : MAS B m dO nO S' R' DB' BI' BD' P' K2 K3 N2 N3 Z0 := by
  obtain ⟨⟨h1, h2, h3, h4, h5⟩, h6, h7, h8, h9, h10⟩ := h
  refine ⟨⟨by rw [hS]; exact h1, by rw [hS]; exact h2, by rw [hS]; exact h3, ?_, h5⟩, h6, by rw [hR]; exact h7, by rw [hD]; exact h8, by rw [hD]; exact h9, h10⟩
  rw [hR]
  refine h4.frame (fun _ _ => rfl) (fun _ _ => rfl) (fun _ _ => rfl) (fun e he j => ?_) (fun q hq => (ho q hq).1) rfl
  obtain ⟨a1, a2, a3, a4, -⟩ := h4.1 e he
  exact (ho _ a1).2 (by rw [a4]; have := (h6 e he).1; omega) j
/-- what a sync that goes through brings -/
def SyNew (A : Nat → Nat) (S R DB : Nat → Nat → Nat) (T : Nat → Bool) (BI : Nat → Nat → Nat) (F : Nat → Nat) (N : Nat → Nat → Nat) (Z : Nat → Nat → Bool) : Prop :=
  ((∀ e, e < 2 ^ F 6 → (wcW A S R DB T BI).2.2 4 (R 0 e) = seH F N Z e) ∧ (∀ q, (wcW A S R DB T BI).2.2 0 q = BI 0 q ∧ (wcW A S R DB T BI).2.2 3 q = BI 3 q ∧ (BI 4 q ≠ 0 → ∀ j, (wcW A S R DB T BI).2.2 j q = BI j q)) ∧ (wcD A S R DB T BI).1 = wbI A (syA F N) ∧ SeOk F N Z (drB (F 6))) ∧
  (∀ e, e < 2 ^ F 6 → 2 ≤ seH F N Z e ∧ seH F N Z e < F 1) ∧ (∀ e e', e < 2 ^ F 6 → e' < 2 ^ F 6 → seH F N Z e = seH F N Z e' → R 0 e = R 0 e') ∧ (∀ i, i < drB (F 6) → (wcD A S R DB T BI).2.2 i < F 1) ∧
  (∀ b, 2 ≤ b → b < F 1 → (seS F N Z (drB (F 6)) b = true ↔ (∃ e, e < 2 ^ F 6 ∧ seH F N Z e = b) ∨ ∃ i, i < drB (F 6) ∧ (wcD A S R DB T BI).2.2 i = b)) ∧
  cntE (seS F N Z (drB (F 6))) (F 1 - 2) + cntF (N 0) (2 ^ F 6) + drB (F 6) = F 1 - 2
theorem syNew {c : Nat} {A : Nat → Nat} {S R DB BI : Nat → Nat → Nat} {BD : Nat → Nat → Nat → Int32} {P : Nat → Prop} {F : Nat → Nat} {K : Nat → Nat → Int32} {N : Nat → Nat → Nat} {Z : Nat → Nat → Bool} (T : Nat → Bool) (hab : AB A) (h : RR c A S R DB BI BD P F K N Z) (h8 : F 18 = 0) (hcap : syA F N ≤ cntE (Z 0) (F 1 - 2)) : SyNew A S R DB T BI F N Z := by
  obtain ⟨⟨r1, r2, r3, r4, r5⟩, ⟨f0, f17, f18, f20, f5, f11⟩, ⟨⟨m1, m2, m3, m4, m5⟩, m6, m7, m8, m9, m10⟩, hl, hb4, hs3⟩ := h
  obtain ⟨l1, l2, ⟨hv, hnb, hLH⟩, hnd, hch⟩ := hl h8
  obtain ⟨a0, a0b, a1, a5, a7, a8⟩ := hab
  have hp := Nat.two_pow_pos (F 6)
  have hm2 : F 12 ≤ 8 := by have := hs3 (1 + A 5) (by omega); omega
  have hfirst : ∀ e, e < 2 ^ F 6 → e % 2 ^ N 0 e < 2 ^ F 6 ∧ R 0 (e % 2 ^ N 0 e) = R 0 e ∧ N 0 (e % 2 ^ N 0 e) = N 0 e ∧ N 1 (e % 2 ^ N 0 e) = N 1 e := fun e he => by
    have h1 : e % 2 ^ N 0 e < 2 ^ F 6 := Nat.lt_of_le_of_lt (Nat.mod_le _ _) he
    obtain ⟨q1, q2, q3⟩ := hv.cong he h1 (by rw [Nat.mod_mod])
    exact ⟨h1, q1.symm, q2.symm, q3.symm⟩
  have hT1 : ∀ b, b < F 1 → (wcT A S R DB T BI b = true ↔ b < 2 ∨ Z 0 b = true) := fun b hb => by
    unfold wcT
    rw [stF_iff, stF_iff, m1]
    have e1 : cpT (fun j => decide (j < 2)) T (A 0) b = decide (b < 2) := by unfold cpT; rw [if_pos (by omega)]
    rw [e1, decide_eq_true_eq]
    by_cases hb2 : b < 2
    · exact ⟨fun _ => Or.inl hb2, fun _ => Or.inl (Or.inl hb2)⟩
    · rw [m8 b (by omega) hb]
      constructor
      · rintro ((q | ⟨e, he, hq⟩) | q)
        · exact absurd q hb2
        · exact Or.inr (Or.inl ⟨e, he, by rw [← (m4.1 e he).2.2.2.1]; exact hq⟩)
        · exact Or.inr (Or.inr q)
      · rintro (q | ⟨e, he, hq⟩ | q)
        · exact absurd q hb2
        · exact Or.inl (Or.inr ⟨e, he, by rw [(m4.1 e he).2.2.2.1]; exact hq⟩)
        · exact Or.inr q
  have hSy : SyH (F 1) (F 6) (drB (F 6)) (N 0) (N 1) (R 0) (Z 0) (wcT A S R DB T BI) (cpT (fun _ => false) (Z 1) 200) A BI := by
    refine ⟨⟨by omega, by omega, r1⟩, hv.2, fun e he => ?_, hT1, fun b hb => by unfold cpT; rw [if_pos hb], hLH, by unfold syA at hcap; omega⟩
    obtain ⟨q1, q2, q3, q4⟩ := hfirst e he
    exact ⟨(hv.1 e he).2.1, q3, q4, (hv.1 e he).2.2.2.1⟩
  have hall := SL.all hSy
  have hE := hall (2 ^ F 6) (Nat.le_refl _)
  have hfree := fun e he => SL.free hSy (hall e (Nat.le_of_lt he)) he
  have hBdef : seB F N Z = stB (N 0) (Z 0) (N 1) (cpT (fun _ => false) (Z 1) 200) (2 ^ F 6) := rfl
  have hWdef : wcW A S R DB T BI = wbS (R 0) A (wcT A S R DB T BI) BI (2 ^ F 6) := by unfold wcW; rw [l1]
  unfold SL at hE
  rw [← hBdef, ← hWdef] at hE
  obtain ⟨⟨j1, j2, j3, j4⟩, ⟨j5, j6⟩, j7, j8, j9, j10⟩ := hE
  have hHn : ∀ e, e < 2 ^ F 6 → seH F N Z e = (seB F N Z).1 (e % 2 ^ N 0 e) := fun e he => by
    unfold seH
    rw [stC_val (n := 2 ^ F 6) (fun e he => (hfirst e he).2.2.1) _ (Nat.le_refl _) e, if_pos he]
  have hHf : ∀ f, f < 2 ^ F 6 → f % 2 ^ N 0 f = f → seH F N Z f = (seB F N Z).1 f := fun f hf hq => by rw [hHn f hf, hq]
  -- the homes
  have hhome : ∀ f, f < 2 ^ F 6 → f % 2 ^ N 0 f = f → 2 ≤ (seB F N Z).1 f ∧ (seB F N Z).1 f < F 1 := fun f hf hq => by
    by_cases hz : N 1 f = 0
    · have := j8 f hf hq hz; exact ⟨this.2.2.1, this.2.2.2⟩
    · rw [j10 f hz]; have := hLH.1 f hf hz; exact ⟨this.1, this.2.1⟩
  have hfp : ∀ e, e < 2 ^ F 6 → e % 2 ^ N 0 e < 2 ^ F 6 ∧ (e % 2 ^ N 0 e) % 2 ^ N 0 (e % 2 ^ N 0 e) = e % 2 ^ N 0 e := fun e he => ⟨(hfirst e he).1, by rw [(hfirst e he).2.2.1, Nat.mod_mod]⟩
  have hinj : ∀ f f', f < 2 ^ F 6 → f' < 2 ^ F 6 → f % 2 ^ N 0 f = f → f' % 2 ^ N 0 f' = f' → (seB F N Z).1 f = (seB F N Z).1 f' → R 0 f = R 0 f' := fun f f' hf hf' hq hq' he => by
    by_cases hz : N 1 f = 0
    · by_cases hz' : N 1 f' = 0
      · rw [j9 f f' hf hf' hq hq' hz hz' he]
      · have h1 := (j8 f hf hq hz).2.1
        rw [he, j10 f' hz', (hLH.1 f' hf' hz').2.2] at h1
        cases h1
    · by_cases hz' : N 1 f' = 0
      · have h1 := (j8 f' hf' hq' hz').2.1
        rw [← he, j10 f hz, (hLH.1 f hf hz).2.2] at h1
        cases h1
      · rw [j10 f hz, j10 f' hz'] at he
        exact hLH.2 f f' hf hf' he hz
  -- the directory
  have hA2 : (wcW A S R DB T BI).1 0 = F 1 := by rw [j4]; rw [(wbI_val (by omega) _).2.2.2 0 (by omega)]; exact r1
  have hcap2 : cntC (N 0) (N 1) (2 ^ F 6) + drB (F 6) ≤ cntE (Z 0) (F 1 - 2) := by unfold syA at hcap; omega
  have hD0 : SD (F 1) (cntC (N 0) (N 1) (2 ^ F 6)) (Z 0) (seB F N Z).2 (wcW A S R DB T BI).2.1 A (wcW A S R DB T BI).1 (DB 0) 0 := by
    refine ⟨j1, j4, ?_, fun b => ?_, fun i hi => absurd hi (by omega), fun i i' hi => absurd hi (by omega)⟩
    · show cntE (fun b => Z 0 b || (seB F N Z).2 b) (F 1 - 2) + cntC (N 0) (N 1) (2 ^ F 6) + 0 = _
      omega
    · show (seB F N Z).2 b = true ↔ _
      constructor
      · exact Or.inl
      · rintro (q | ⟨i, hi, -⟩)
        · exact q
        · omega
  have hDall := SD.all (by omega : 8 ≤ F 1) (by omega : F 1 ≤ 200) hA2 hcap2 hD0
  have hDg := hDall (drB (F 6)) (Nat.le_refl _)
  have hDfree := fun k (hk : k < drB (F 6)) => SD.free (by omega : 8 ≤ F 1) hcap2 (hDall k (Nat.le_of_lt hk)) hk
  have hDdef : wcD A S R DB T BI = wdS (wcW A S R DB T BI).1 (wcW A S R DB T BI).2.1 (DB 0) (drB (F 6)) := by unfold wcD; rw [l1]
  unfold SD at hDg
  rw [← hDdef] at hDg
  obtain ⟨d1, d2, d3, d4, d5, d6⟩ := hDg
  have hTdef : seT F N Z (drB (F 6)) = stD (Z 0) (seB F N Z).2 (drB (F 6)) := rfl
  have hS8 : ∀ b, 2 ≤ b → b < F 1 → (seS F N Z (drB (F 6)) b = true ↔ (∃ e, e < 2 ^ F 6 ∧ seH F N Z e = b) ∨ ∃ i, i < drB (F 6) ∧ (wcD A S R DB T BI).2.2 i = b) := fun b hb1 hb2 => by
    unfold seS
    rw [stF_iff]
    have e1 : cpT (seT F N Z (drB (F 6))) (Z 0) 200 b = seT F N Z (drB (F 6)) b := by unfold cpT; rw [if_pos (by omega)]
    rw [e1, hTdef, d4 b]
    constructor
    · rintro ((q | q) | q)
      · obtain ⟨f, p1, p2, p3, p4⟩ := j7 b (by omega) q
        exact Or.inl ⟨f, p1, by rw [hHf f p1 p2]; exact p4⟩
      · exact Or.inr q
      · exact Or.inl q
    · rintro (q | q)
      · exact Or.inr q
      · exact Or.inl (Or.inr q)
  refine ⟨⟨fun e he => by rw [j2 e he, hHn e he], j3, by rw [d2]; unfold syA; rw [Nat.add_comm], ⟨fun e he hf hz => ?_, fun k hk => ?_, fun e he => ?_⟩⟩, fun e he => ?_, fun e e' he he' hq => ?_, fun i hi => (d5 i hi).2.1, hS8, ?_⟩
  · rw [stB_ge _ _ _ _ e e (Nat.le_refl _)] at hz
    obtain ⟨x, p1, p2, p3, p4⟩ := hfree e he hf hz
    exact ⟨x, p1, by omega, p3, p4⟩
  · obtain ⟨x, p1, p2, p3, p4⟩ := hDfree k hk
    exact ⟨x, p1, by omega, p3, p4⟩
  · have := (hhome _ (hfp e he).1 (hfp e he).2).2
    rw [hHn e he]
    omega
  · rw [hHn e he]; exact hhome _ (hfp e he).1 (hfp e he).2
  · rw [hHn e he, hHn e' he'] at hq
    rw [← (hfirst e he).2.1, ← (hfirst e' he').2.1]
    exact hinj _ _ (hfp e he).1 (hfp e' he').1 (hfp e he).2 (hfp e' he').2 hq
  · have hu := cnt_ufs (L := N 0) (Hs := seH F N Z) (n := F 1 - 2) (e := 2 ^ F 6) (fun f hf hq => by rw [hHf f hf hq]; have := hhome f hf hq; omega) (fun f f' hf hf' hq hq' he => by
      rw [hHf f hf hq, hHf f' hf' hq'] at he
      have h1 := hinj f f' hf hf' hq hq' he
      have h2 := (hv.2 f f' hf hf').mp h1
      have h3 := (hv.cong hf hf' h2).2.1
      rw [h3] at h2 hq
      rw [hq, hq'] at h2
      exact h2)
    have hd := cnt_udr (U := ufs (N 0) (seH F N Z) (2 ^ F 6)) (Dn := (wcD A S R DB T BI).2.2) (n := F 1 - 2) (k := drB (F 6)) (fun i hi => by
      obtain ⟨p1, p2, p3, p4⟩ := d5 i hi
      refine ⟨p1, by omega, ?_⟩
      cases hq : ufs (N 0) (seH F N Z) (2 ^ F 6) ((wcD A S R DB T BI).2.2 i) with
      | false => rfl
      | true =>
        obtain ⟨f, q1, q2, q3⟩ := (ufs_iff _ _ _ _).mp hq
        rw [hHf f q1 q2] at q3
        by_cases hz : N 1 f = 0
        · have := (j8 f q1 q2 hz).1
          rw [q3, p4] at this
          cases this
        · rw [j10 f hz] at q3
          have := (hLH.1 f q1 hz).2.2
          rw [q3, p3] at this
          cases this) d6
    have hc : cntE (seS F N Z (drB (F 6))) (F 1 - 2) = cntE (udr (ufs (N 0) (seH F N Z) (2 ^ F 6)) (wcD A S R DB T BI).2.2 (drB (F 6))) (F 1 - 2) := by
      refine cntE_congr fun b hb1 hb2 => ?_
      rw [Bool.eq_iff_iff, hS8 b hb1 (by omega), udr_iff, ufs_iff]
      constructor
      · rintro (⟨e, he, hq⟩ | q)
        · exact Or.inl ⟨_, (hfp e he).1, (hfp e he).2, by rw [hHf _ (hfp e he).1 (hfp e he).2, ← hHn e he]; exact hq⟩
        · exact Or.inr q
      · rintro (⟨f, q1, q2, q3⟩ | q)
        · exact Or.inl ⟨f, q1, q3⟩
        · exact Or.inr q
    omega
