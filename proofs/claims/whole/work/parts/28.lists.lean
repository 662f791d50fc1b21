/-! lists of keys with their values, what is counted in them -/
def kvl (K V : Nat → Int32) : Nat → List (Int32 × Int32)
  | 0 => []
  | n + 1 => kvl K V n ++ [(K n, V n)]
def inB (l e : Nat) (q : Int32 × Int32) : Bool := decide (hx q.1 % 2 ^ l = e % 2 ^ l)
def NdF (K : Nat → Int32) (n : Nat) : Prop := ∀ i j, i < n → j < n → K i = K j → i = j
theorem kvl_len (K V : Nat → Int32) : ∀ n, (kvl K V n).length = n
  | 0 => rfl
  | n + 1 => by rw [kvl, List.length_append, kvl_len K V n]; rfl
theorem kvl_congr {K V K' V' : Nat → Int32} : ∀ {n : Nat}, (∀ i, i < n → K i = K' i ∧ V i = V' i) → kvl K V n = kvl K' V' n
  | 0, _ => rfl
  | n + 1, h => by
    have h1 := h n (by omega)
    rw [kvl, kvl, kvl_congr (n := n) (fun i hi => h i (by omega)), h1.1, h1.2]
theorem kvl_mem {K V : Nat → Int32} {q : Int32 × Int32} : ∀ {n : Nat}, q ∈ kvl K V n ↔ ∃ i, i < n ∧ q = (K i, V i)
  | 0 => by
    constructor
    · intro h; cases h
    · rintro ⟨i, h, _⟩; omega
  | n + 1 => by
    rw [kvl, List.mem_append, kvl_mem (n := n), List.mem_singleton]
    constructor
    · rintro (⟨i, h1, h2⟩ | h)
      · exact ⟨i, by omega, h2⟩
      · exact ⟨n, by omega, h⟩
    · rintro ⟨i, h1, h2⟩
      by_cases hi : i = n
      · right; rw [← hi]; exact h2
      · left; exact ⟨i, by omega, h2⟩
theorem kvl_keys {K V : Nat → Int32} {n : Nat} {k : Int32} : k ∈ (kvl K V n).map Prod.fst ↔ ∃ i, i < n ∧ K i = k := by
  rw [List.mem_map]
  constructor
  · rintro ⟨q, h1, h2⟩
    obtain ⟨i, h3, h4⟩ := kvl_mem.mp h1
    exact ⟨i, h3, by rw [← h2, h4]⟩
  · rintro ⟨i, h1, h2⟩
    exact ⟨(K i, V i), kvl_mem.mpr ⟨i, h1, rfl⟩, h2⟩
theorem kvl_nd {K V : Nat → Int32} : ∀ {n : Nat}, ((kvl K V n).map Prod.fst).Nodup ↔ NdF K n
  | 0 => by
    constructor
    · intro _ i j h; omega
    · intro _; exact List.Pairwise.nil
  | n + 1 => by
    have ih := kvl_nd (K := K) (V := V) (n := n)
    rw [kvl, List.map_append, List.nodup_append, ih]
    constructor
    · rintro ⟨h1, _, h3⟩ i j hi hj he
      have h4 : ∀ i, i < n → K i ≠ K n := fun i hi => h3 (K i) (kvl_keys.mpr ⟨i, hi, rfl⟩) (K n) (by simp)
      by_cases hin : i = n
      · by_cases hjn : j = n
        · omega
        · rw [hin] at he; exact absurd he.symm (h4 j (by omega))
      · by_cases hjn : j = n
        · rw [hjn] at he; exact absurd he (h4 i (by omega))
        · exact h1 i j (by omega) (by omega) he
    · intro h
      refine ⟨fun i j hi hj he => h i j (by omega) (by omega) he, by simp, ?_⟩
      intro a ha b hb hab
      obtain ⟨i, hi, hk⟩ := kvl_keys.mp ha
      have hb2 : b = K n := by simpa using hb
      have := h i n (by omega) (by omega) (by rw [hk, hab, hb2])
      omega
theorem ndF_perm {K V K' V' : Nat → Int32} {n c : Nat} {f : Int32 × Int32 → Bool} (h : (kvl K' V' c).Perm ((kvl K V n).filter f)) (hn : NdF K n) : NdF K' c := by
  rw [← kvl_nd (V := V')]
  refine (List.Perm.nodup_iff (h.map Prod.fst)).mpr ?_
  exact List.Nodup.sublist (List.Sublist.map Prod.fst List.filter_sublist) (kvl_nd.mpr hn)
theorem cnt_len (K V : Nat → Int32) (r b : Nat) : ∀ n, cnt K r b n = ((kvl K V n).filter (inB b r)).length
  | 0 => rfl
  | n + 1 => by
    have ih := cnt_len K V r b n
    rw [cnt, kvl, List.filter_append, List.length_append, ih]
    by_cases h : hx (K n) % 2 ^ b = r % 2 ^ b
    · rw [if_pos h]; simp [inB, h]
    · rw [if_neg h]; simp [inB, h]
theorem fnd_spec (K : Nat → Int32) (k : Int32) : ∀ n i, i ≤ fnd K k n i ∧ fnd K k n i ≤ i + n ∧ (∀ j, i ≤ j → j < fnd K k n i → K j ≠ k) ∧ (fnd K k n i < i + n → K (fnd K k n i) = k)
  | 0, i => ⟨Nat.le_refl _, Nat.le_refl _, fun j h1 h2 => absurd h2 (by unfold fnd; omega), fun h => absurd h (by unfold fnd; omega)⟩
  | n + 1, i => by
    have ih := fnd_spec K k n (i + 1)
    unfold fnd
    by_cases h : K i = k
    · rw [if_pos h]; exact ⟨Nat.le_refl _, by omega, fun j h1 h2 => by omega, fun _ => h⟩
    · rw [if_neg h]
      obtain ⟨h1, h2, h3, h4⟩ := ih
      refine ⟨by omega, by omega, fun j h5 h6 => ?_, fun h5 => h4 (by omega)⟩
      by_cases hj : j = i
      · rw [hj]; exact h
      · exact h3 j (by omega) h6
theorem fnd_key {K : Nat → Int32} {k : Int32} {n : Nat} (h : fnd K k n 0 < n) : K (fnd K k n 0) = k := (fnd_spec K k n 0).2.2.2 (by omega)
theorem fnd_lt_iff {K : Nat → Int32} {k : Int32} {n : Nat} : fnd K k n 0 < n ↔ ∃ j, j < n ∧ K j = k := by
  obtain ⟨h1, h2, h3, h4⟩ := fnd_spec K k n 0
  constructor
  · intro h; exact ⟨_, h, h4 (by omega)⟩
  · rintro ⟨j, hj, hk⟩
    rcases Nat.lt_or_ge (fnd K k n 0) n with h | h
    · exact h
    · exact absurd hk (h3 j (by omega) (by omega))
theorem fnd_uniq {K : Nat → Int32} {k : Int32} {n i : Nat} (hn : NdF K n) (hi : i < n) (hk : K i = k) : fnd K k n 0 = i := by
  have h := fnd_lt_iff.mpr ⟨i, hi, hk⟩
  exact hn _ _ h hi ((fnd_key h).trans hk.symm)
/-- a bucket's list against the whole one -/
theorem bkt_find {K V BK BV : Nat → Int32} {n c l e : Nat} {k : Int32} (hB : (kvl BK BV c).Perm ((kvl K V n).filter (inB l e))) (he : hx k % 2 ^ l = e % 2 ^ l) : fnd BK k c 0 < c ↔ fnd K k n 0 < n := by
  rw [fnd_lt_iff, fnd_lt_iff]
  constructor
  · rintro ⟨j, hj, hk⟩
    have h1 : (BK j, BV j) ∈ (kvl K V n).filter (inB l e) := hB.mem_iff.mp (kvl_mem.mpr ⟨j, hj, rfl⟩)
    obtain ⟨i, hi, hq⟩ := kvl_mem.mp (List.mem_filter.mp h1).1
    have h2 : BK j = K i := congrArg Prod.fst hq
    exact ⟨i, hi, h2.symm.trans hk⟩
  · rintro ⟨i, hi, hk⟩
    have h1 : (K i, V i) ∈ kvl BK BV c := hB.mem_iff.mpr (List.mem_filter.mpr ⟨kvl_mem.mpr ⟨i, hi, rfl⟩, by unfold inB; rw [decide_eq_true_eq]; rw [hk]; exact he⟩)
    obtain ⟨j, hj, hq⟩ := kvl_mem.mp h1
    have h2 : K i = BK j := congrArg Prod.fst hq
    exact ⟨j, hj, h2.symm.trans hk⟩
theorem bkt_val {K V BK BV : Nat → Int32} {n c l e : Nat} {k : Int32} (hB : (kvl BK BV c).Perm ((kvl K V n).filter (inB l e))) (hn : NdF K n) (h : fnd BK k c 0 < c) : BV (fnd BK k c 0) = V (fnd K k n 0) := by
  have h1 : (BK (fnd BK k c 0), BV (fnd BK k c 0)) ∈ (kvl K V n).filter (inB l e) := hB.mem_iff.mp (kvl_mem.mpr ⟨_, h, rfl⟩)
  obtain ⟨i, hi, hq⟩ := kvl_mem.mp (List.mem_filter.mp h1).1
  have h2 : BK (fnd BK k c 0) = K i := congrArg Prod.fst hq
  have h3 : BV (fnd BK k c 0) = V i := congrArg Prod.snd hq
  rw [h3, fnd_uniq hn hi (h2.symm.trans (fnd_key h))]
theorem kvl_app (K V : Nat → Int32) (n : Nat) (k v : Int32) : kvl (upd K n k) (upd V n v) (n + 1) = kvl K V n ++ [(k, v)] := by
  rw [kvl, kvl_congr (K := upd K n k) (V := upd V n v) (K' := K) (V' := V) (n := n) (fun i hi => ⟨va_up_ne K k (by omega), va_up_ne V v (by omega)⟩)]
  rw [show upd K n k n = k from va_up_self K n k, show upd V n v n = v from va_up_self V n v]
/-- a value changed in place -/
def chV (k v : Int32) (q : Int32 × Int32) : Int32 × Int32 := if q.1 = k then (k, v) else q
theorem kvl_chg {K V : Nat → Int32} {p : Nat} {k v : Int32} : ∀ {n : Nat}, (∀ i, i < n → (K i = k ↔ i = p)) → kvl K (upd V p v) n = (kvl K V n).map (chV k v)
  | 0, _ => rfl
  | n + 1, h => by
    rw [kvl, kvl, List.map_append, kvl_chg (n := n) (fun i hi => h i (by omega))]
    congr 1
    have h1 := h n (by omega)
    show [(K n, upd V p v n)] = [chV k v (K n, V n)]
    unfold chV
    by_cases hk : K n = k
    · rw [if_pos hk, hk, ← h1.mp hk, show upd V n v n = v from va_up_self V n v]
    · rw [if_neg hk, show upd V p v n = V n from va_up_ne V v (fun e => hk (h1.mpr e))]
theorem chV_key (k v : Int32) (q : Int32 × Int32) : (chV k v q).1 = q.1 := by
  unfold chV
  by_cases h : q.1 = k
  · rw [if_pos h]; exact h.symm
  · rw [if_neg h]
theorem inB_key {l e : Nat} {q q' : Int32 × Int32} (h : q.1 = q'.1) : inB l e q = inB l e q' := by
  unfold inB
  rw [h]
theorem inB_chV (l e : Nat) (k v : Int32) (L : List (Int32 × Int32)) : (L.map (chV k v)).filter (inB l e) = (L.filter (inB l e)).map (chV k v) := by
  have h : (inB l e ∘ chV k v) = inB l e := by
    funext q
    rw [Function.comp_apply]
    exact inB_key (chV_key k v q)
  rw [List.filter_map, h]
/-- one taken out, the last put into its place -/
theorem kvl_repl {K V : Nat → Int32} {p : Nat} (a b : Int32) : ∀ {m : Nat}, p < m → ∃ X, (kvl K V m).Perm ((K p, V p) :: X) ∧ (kvl (upd K p a) (upd V p b) m).Perm ((a, b) :: X)
  | 0, h => absurd h (by omega)
  | m + 1, h => by
    by_cases hp : p = m
    · subst hp
      refine ⟨kvl K V p, ?_, ?_⟩
      · rw [kvl]; exact List.perm_append_singleton _ _
      · rw [kvl_app]; exact List.perm_append_singleton _ _
    · obtain ⟨X, h1, h2⟩ := kvl_repl (K := K) (V := V) (p := p) a b (m := m) (by omega)
      refine ⟨X ++ [(K m, V m)], ?_, ?_⟩
      · rw [kvl]; exact h1.append_right _
      · rw [kvl, show upd K p a m = K m from va_up_ne K a (by omega), show upd V p b m = V m from va_up_ne V b (by omega)]
        exact h2.append_right _
theorem kvl_swap {K V : Nat → Int32} {p m : Nat} (h : p < m + 1) : (kvl K V (m + 1)).Perm ((K p, V p) :: kvl (upd K p (K m)) (upd V p (V m)) m) := by
  by_cases hp : p = m
  · subst hp
    rw [kvl_congr (K := upd K p (K p)) (V := upd V p (V p)) (K' := K) (V' := V) (n := p) (fun i hi => ⟨va_up_ne K _ (by omega), va_up_ne V _ (by omega)⟩), kvl]
    exact List.perm_append_singleton _ _
  · obtain ⟨X, h1, h2⟩ := kvl_repl (K := K) (V := V) (p := p) (K m) (V m) (m := m) (by omega)
    rw [kvl]
    refine (h1.append_right _).trans ?_
    refine List.Perm.cons _ ?_
    exact (List.perm_append_singleton _ _).trans h2.symm
def neK (k : Int32) (q : Int32 × Int32) : Bool := decide (q.1 ≠ k)
theorem kvl_rem {K V : Nat → Int32} {p m : Nat} {k : Int32} (h : p < m + 1) (hk : K p = k) (hn : NdF K (m + 1)) : (kvl (upd K p (K m)) (upd V p (V m)) m).Perm ((kvl K V (m + 1)).filter (neK k)) := by
  have h1 := (kvl_swap (K := K) (V := V) h)
  have h2 := h1.filter (neK k)
  have h3 : ((K p, V p) :: kvl (upd K p (K m)) (upd V p (V m)) m).filter (neK k) = (kvl (upd K p (K m)) (upd V p (V m)) m) := by
    rw [List.filter_cons, if_neg (by unfold neK; rw [decide_eq_true_eq]; exact fun q => q hk), List.filter_eq_self]
    intro q hq
    unfold neK
    rw [decide_eq_true_eq]
    intro hqk
    have h4 := (List.Perm.nodup_iff (h1.map Prod.fst)).mp (kvl_nd.mpr hn)
    rw [List.map_cons, List.nodup_cons] at h4
    refine h4.1 (List.mem_map.mpr ⟨q, hq, ?_⟩)
    rw [hqk]; exact hk.symm
  rw [h3] at h2
  exact h2.symm
theorem ndF_rem {K : Nat → Int32} {p m : Nat} (h : p < m + 1) (hn : NdF K (m + 1)) : NdF (upd K p (K m)) m := by
  have h1 := kvl_swap (K := K) (V := K) h
  have h2 := (List.Perm.nodup_iff (h1.map Prod.fst)).mp (kvl_nd.mpr hn)
  rw [List.map_cons, List.nodup_cons] at h2
  exact kvl_nd.mp h2.2
theorem ndF_app {K : Nat → Int32} {n : Nat} {k : Int32} (hn : NdF K n) (hk : ∀ i, i < n → K i ≠ k) : NdF (upd K n k) (n + 1) := by
  intro i j hi hj he
  have e1 : ∀ i, i < n → upd K n k i = K i := fun i h => va_up_ne K k (by omega)
  have e2 : upd K n k n = k := va_up_self K n k
  by_cases h1 : i = n
  · by_cases h2 : j = n
    · omega
    · rw [h1, e2, e1 j (by omega)] at he; exact absurd he.symm (hk j (by omega))
  · by_cases h2 : j = n
    · rw [h2, e2, e1 i (by omega)] at he; exact absurd he (hk i (by omega))
    · rw [e1 i (by omega), e1 j (by omega)] at he; exact hn i j (by omega) (by omega) he
/-- the halves of a split -/
theorem spL_list {K U : Nat → Int32} {m : Int32} {w : Bool} {c : Nat} (hn : NdF K c) : ∀ i, i ≤ c → kvl (spL K U m w i).1 (spL K U m w i).2.1 (spL K U m w i).2.2 = (kvl K U i).filter (fun q => decide (decide (mx q.1 &&& m = 0) = w))
  | 0, _ => rfl
  | i + 1, h => by
    have ih := spL_list (U := U) (m := m) (w := w) hn i (by omega)
    rw [kvl, List.filter_append]
    by_cases hd : decide (mx (K i) &&& m = 0) = w
    · rw [spL_y hd]
      have hnot : ¬ fnd (spL K U m w i).1 (K i) (spL K U m w i).2.2 0 < (spL K U m w i).2.2 := by
        intro q
        obtain ⟨j, hj, hk⟩ := fnd_lt_iff.mp q
        have h1 : ((spL K U m w i).1 j, (spL K U m w i).2.1 j) ∈ (kvl K U i).filter (fun q => decide (decide (mx q.1 &&& m = 0) = w)) := by rw [← ih]; exact kvl_mem.mpr ⟨j, hj, rfl⟩
        obtain ⟨a, ha, hq⟩ := kvl_mem.mp (List.mem_filter.mp h1).1
        have h2 : (spL K U m w i).1 j = K a := congrArg Prod.fst hq
        have := hn a i (by omega) (by omega) (h2.symm.trans hk)
        omega
      rw [show sto (spL K U m w i) (K i) (U i) = (upd (spL K U m w i).1 (spL K U m w i).2.2 (K i), upd (spL K U m w i).2.1 (spL K U m w i).2.2 (U i), (spL K U m w i).2.2 + 1) by unfold sto; rw [if_neg hnot]]
      show kvl (upd _ _ _) (upd _ _ _) (_ + 1) = _
      rw [kvl_app, ih]
      congr 1
      rw [List.filter_cons, if_pos (by simpa using hd)]
      rfl
    · rw [spL_n hd, ih]
      rw [List.filter_cons, if_neg (by simpa using hd)]
      simp
