/-! ===== MATHS of the reference's merge ===== -/
theorem n_uniq {F G : Nat → Int32} {na nb n n' : Nat} (h1 : ps F G na nb n = (na, nb)) (h2 : ∀ k, k < n → (ps F G na nb k).1 < na ∨ (ps F G na nb k).2 < nb) (h3 : ps F G na nb n' = (na, nb)) (h4 : ∀ k, k < n' → (ps F G na nb k).1 < na ∨ (ps F G na nb k).2 < nb) : n = n' := by
  rcases Nat.lt_trichotomy n n' with e | e | e
  · have := h4 n e
    rw [h1] at this
    omega
  · exact e
  · have := h2 n' e
    rw [h3] at this
    omega
theorem scr_go {F G : Nat → Int32} {na nb : Nat} : ∀ d k i j, ps F G na nb k = (i, j) → i ≤ na → j ≤ nb → na + nb ≤ i + j + d → (∀ k', k' < k → (ps F G na nb k').1 < na ∨ (ps F G na nb k').2 < nb) → ∃ n, ps F G na nb n = (na, nb) ∧ ∀ k', k' < n → (ps F G na nb k').1 < na ∨ (ps F G na nb k').2 < nb := by
  intro d
  induction d with
  | zero => intro k i j h1 h2 h3 h4 h5; exact ⟨k, by rw [h1, show i = na by omega, show j = nb by omega], h5⟩
  | succ d ih =>
    intro k i j h1 h2 h3 h4 h5
    by_cases hd : i = na ∧ j = nb
    · exact ⟨k, by rw [h1, hd.1, hd.2], h5⟩
    · have h6 := lt_s (p := fun k' => (ps F G na nb k').1 < na ∨ (ps F G na nb k').2 < nb) h5 (by rw [h1]; show i < na ∨ j < nb; omega)
      rcases kd_cases (F := F) (G := G) h2 h3 hd with ⟨hk, e1, e2⟩ | ⟨hk, e1⟩ | ⟨hk, e2⟩
      · exact ih (k + 1) (i + 1) (j + 1) (by rw [ps_s, h1]; show (if kd F G na nb i j = 2 then i else i + 1, if kd F G na nb i j = 1 then j else j + 1) = _; rw [hk]; rfl) (by omega) (by omega) (by omega) h6
      · exact ih (k + 1) (i + 1) j (by rw [ps_s, h1]; show (if kd F G na nb i j = 2 then i else i + 1, if kd F G na nb i j = 1 then j else j + 1) = _; rw [hk]; rfl) (by omega) (by omega) (by omega) h6
      · exact ih (k + 1) i (j + 1) (by rw [ps_s, h1]; show (if kd F G na nb i j = 2 then i else i + 1, if kd F G na nb i j = 1 then j else j + 1) = _; rw [hk]; rfl) (by omega) (by omega) (by omega) h6
theorem scr_ex (F G : Nat → Int32) (na nb : Nat) : ∃ (n : Nat) (K1 F1 G1 V1 : Nat → Int32), agr F G na nb K1 F1 G1 V1 n ∧ ps F G na nb n = (na, nb) ∧ ∀ k, k < n → (ps F G na nb k).1 < na ∨ (ps F G na nb k).2 < nb := by
  obtain ⟨n, h1, h2⟩ := scr_go (F := F) (G := G) (na := na) (nb := nb) (na + nb) 0 0 0 rfl (by omega) (by omega) (by omega) (fun k h => absurd h (Nat.not_lt_zero k))
  exact ⟨n, fun k => nI (kd F G na nb (ps F G na nb k).1 (ps F G na nb k).2), fun k => nI (ps F G na nb k).1, fun k => nI (ps F G na nb k).2, fun k => vl F G na nb k, fun k _ => ⟨rfl, rfl, rfl, rfl⟩, h1, h2⟩
theorem kd_0e {F G : Nat → Int32} {na nb i j : Nat} (h : kd F G na nb i j = 0) : i < na ∧ j < nb ∧ F i = G j := by
  unfold kd at h
  by_cases e : i < na ∧ j < nb ∧ F i = G j
  · exact e
  · rw [if_neg e] at h
    split at h <;> omega
theorem kd_1e {F G : Nat → Int32} {na nb i j : Nat} (h : kd F G na nb i j = 1) : i < na ∧ ¬ (i < na ∧ j < nb ∧ F i = G j) ∧ (nb ≤ j ∨ dc F G na nb (i + 1) j ≤ dc F G na nb i (j + 1)) := by
  unfold kd at h
  by_cases e : i < na ∧ j < nb ∧ F i = G j
  · rw [if_pos e] at h; omega
  · rw [if_neg e] at h
    by_cases e2 : i < na ∧ (nb ≤ j ∨ dc F G na nb (i + 1) j ≤ dc F G na nb i (j + 1))
    · exact ⟨e2.1, e, e2.2⟩
    · rw [if_neg e2] at h; omega
theorem kd_2e {F G : Nat → Int32} {na nb i j : Nat} (h : kd F G na nb i j = 2) : ¬ (i < na ∧ j < nb ∧ F i = G j) ∧ ¬ (i < na ∧ (nb ≤ j ∨ dc F G na nb (i + 1) j ≤ dc F G na nb i (j + 1))) := by
  unfold kd at h
  by_cases e : i < na ∧ j < nb ∧ F i = G j
  · rw [if_pos e] at h; omega
  · rw [if_neg e] at h
    by_cases e2 : i < na ∧ (nb ≤ j ∨ dc F G na nb (i + 1) j ≤ dc F G na nb i (j + 1))
    · rw [if_pos e2] at h; omega
    · exact ⟨e, e2⟩
theorem dc_k1 {F G : Nat → Int32} {na nb i j : Nat} (hj : j ≤ nb) (h : kd F G na nb i j = 1) : dc F G na nb i j = 1 + dc F G na nb (i + 1) j := by
  obtain ⟨h1, h2, h3⟩ := kd_1e h
  by_cases e : j < nb
  · rw [dc_s h1 e, if_neg (fun z => h2 ⟨h1, e, z⟩), Nat.min_eq_left (by omega)]
  · rw [show j = nb by omega, dc_nb, dc_nb]; omega
theorem dc_k2 {F G : Nat → Int32} {na nb i j : Nat} (hi : i ≤ na) (hj : j < nb) (h : kd F G na nb i j = 2) : dc F G na nb i j = 1 + dc F G na nb i (j + 1) := by
  obtain ⟨h2, h3⟩ := kd_2e h
  by_cases e : i < na
  · rw [dc_s e hj, if_neg (fun z => h2 ⟨e, hj, z⟩), Nat.min_eq_right (by omega)]
  · rw [show i = na by omega, dc_na, dc_na]; omega
/-- what a script's positions keep to -/
theorem ps_ok {F G : Nat → Int32} {na nb n : Nat} (hnd : ∀ k, k < n → (ps F G na nb k).1 < na ∨ (ps F G na nb k).2 < nb) : ∀ k, k ≤ n → (ps F G na nb k).1 ≤ na ∧ (ps F G na nb k).2 ≤ nb ∧ dc F G na nb (ps F G na nb k).1 (ps F G na nb k).2 + k ≤ dc F G na nb 0 0 + (ps F G na nb k).1 := by
  intro k
  induction k with
  | zero => intro _; exact ⟨Nat.zero_le _, Nat.zero_le _, Nat.le_refl _⟩
  | succ k ih =>
    intro hk
    obtain ⟨h1, h2, h3⟩ := ih (by omega)
    have h4 := hnd k (by omega)
    rw [ps_s]
    generalize (ps F G na nb k).1 = i at *
    generalize (ps F G na nb k).2 = j at *
    rcases kd_cases (F := F) (G := G) h1 h2 (by omega) with ⟨hk, e1, e2⟩ | ⟨hk, e1⟩ | ⟨hk, e2⟩
    · rw [hk]
      have h5 := dc_s (F := F) (G := G) e1 e2
      rw [if_pos (kd_0e hk).2.2] at h5
      refine ⟨?_, ?_, ?_⟩
      · show i + 1 ≤ na; omega
      · show j + 1 ≤ nb; omega
      · show dc F G na nb (i + 1) (j + 1) + (k + 1) ≤ dc F G na nb 0 0 + (i + 1); omega
    · have h5 := dc_k1 h2 hk
      rw [hk]
      refine ⟨?_, ?_, ?_⟩
      · show i + 1 ≤ na; omega
      · show j ≤ nb; omega
      · show dc F G na nb (i + 1) j + (k + 1) ≤ dc F G na nb 0 0 + (i + 1); omega
    · have h5 := dc_k2 h1 e2 hk
      rw [hk]
      refine ⟨?_, ?_, ?_⟩
      · show i ≤ na; omega
      · show j + 1 ≤ nb; omega
      · show dc F G na nb i (j + 1) + (k + 1) ≤ dc F G na nb 0 0 + i; omega
theorem n_le {F G : Nat → Int32} {na nb n : Nat} (hnd : ∀ k, k < n → (ps F G na nb k).1 < na ∨ (ps F G na nb k).2 < nb) (he : ps F G na nb n = (na, nb)) : n ≤ na + dc F G na nb 0 0 := by
  have := (ps_ok hnd n (Nat.le_refl n)).2.2
  rw [he] at this
  omega
/-- what due answers at step a -/
theorem due_at {F G K1 F1 G1 V1 : Nat → Int32} {na nb n a i j : Nat} (hag : agr F G na nb K1 F1 G1 V1 n) (he : ps F G na nb n = (na, nb)) (hnd : ∀ k, k < n → (ps F G na nb k).1 < na ∨ (ps F G na nb k).2 < nb) (ha : a ≤ n) (hp : ps F G na nb a = (i, j)) : (if i = na ∧ j = nb then (-1 : Int32) else nI (kd F G na nb i j)) = if a = n then -1 else K1 a := by
  by_cases e : a = n
  · subst e
    rw [hp] at he
    have e1 : i = na := congrArg Prod.fst he
    have e2 : j = nb := congrArg Prod.snd he
    rw [if_pos ⟨e1, e2⟩, if_pos rfl]
  · have h1 := hnd a (by omega)
    rw [hp] at h1
    have h2 : i < na ∨ j < nb := h1
    rw [if_neg (by omega), if_neg e, (hag a (by omega)).1, hp]
theorem agr_ki {F G K1 F1 G1 V1 : Nat → Int32} {na nb n : Nat} (hag : agr F G na nb K1 F1 G1 V1 n) : mKi K1 n := by
  intro k hk
  have h1 := kd_le (F := F) (G := G) (na := na) (nb := nb) (i := (ps F G na nb k).1) (j := (ps F G na nb k).2)
  rw [(hag k hk).1]
  rcases (show kd F G na nb (ps F G na nb k).1 (ps F G na nb k).2 = 0 ∨ kd F G na nb (ps F G na nb k).1 (ps F G na nb k).2 = 1 ∨ kd F G na nb (ps F G na nb k).1 (ps F G na nb k).2 = 2 by omega) with e | e | e <;> rw [e]
  · exact Or.inl rfl
  · exact Or.inr (Or.inl rfl)
  · exact Or.inr (Or.inr rfl)
theorem agr_kd {F G K1 F1 G1 V1 : Nat → Int32} {na nb n k t : Nat} (hag : agr F G na nb K1 F1 G1 V1 n) (hk : k < n) (ht : t ≤ 2) (h : K1 k = nI t) : kd F G na nb (ps F G na nb k).1 (ps F G na nb k).2 = t := by
  have h1 := kd_le (F := F) (G := G) (na := na) (nb := nb) (i := (ps F G na nb k).1) (j := (ps F G na nb k).2)
  rw [(hag k hk).1] at h
  exact (nI_eq (by omega) (by omega)).mp h
theorem eiF_in {K : Nat → Int32} : ∀ d a t, a + t < eiF K d a → K (a + t) = nI 2 := by
  intro d
  induction d with
  | zero => intro a t h; exact absurd h (by show ¬ a + t < a; omega)
  | succ d ih =>
    intro a t h
    by_cases e : K a = nI 2
    · rw [eiF_on e] at h
      cases t with
      | zero => exact e
      | succ t => rw [show a + (t + 1) = (a + 1) + t by omega]; exact ih (a + 1) t (by omega)
    · rw [eiF_end e] at h; omega
/-- the numbers of a run of inserts -/
theorem ins_run {F G K1 F1 G1 V1 : Nat → Int32} {na nb n a i j : Nat} (hag : agr F G na nb K1 F1 G1 V1 n) (hnd : ∀ k, k < n → (ps F G na nb k).1 < na ∨ (ps F G na nb k).2 < nb) (ha : a ≤ n) (hp : ps F G na nb a = (i, j)) : ∀ t, a + t < eiF K1 (n - a) a → ps F G na nb (a + t) = (i, j + t) ∧ j + t < nb ∧ G (j + t) = V1 (a + t) := by
  have hle := (eiF_b (K := K1) (n - a) a).2.1
  have key : ∀ t, a + t < eiF K1 (n - a) a → ps F G na nb (a + t) = (i, j + t) → j + t < nb ∧ G (j + t) = V1 (a + t) ∧ ps F G na nb (a + (t + 1)) = (i, j + (t + 1)) := by
    intro t ht h1
    have hk := agr_kd hag (by omega) (by omega) (eiF_in _ _ _ ht)
    have h2 := ps_ok hnd (a + t) (by omega)
    have h3 := hnd (a + t) (by omega)
    have hv := (hag (a + t) (by omega)).2.2.2
    rw [vl_2 hk, h1] at hv
    rw [h1] at hk h2 h3
    have hk2 : kd F G na nb i (j + t) = 2 := hk
    have h4 : i ≤ na := h2.1
    have h5 : j + t ≤ nb := h2.2.1
    have h6 : i < na ∨ j + t < nb := h3
    refine ⟨?_, hv.symm, ?_⟩
    · rcases kd_cases (F := F) (G := G) h4 h5 (by omega) with ⟨e, _, _⟩ | ⟨e, _⟩ | ⟨_, e⟩
      · omega
      · omega
      · exact e
    · show ps F G na nb (a + t + 1) = _
      rw [ps_s, h1]
      show (if kd F G na nb i (j + t) = 2 then i else i + 1, if kd F G na nb i (j + t) = 1 then j + t else j + t + 1) = _
      rw [hk2]; rfl
  intro t
  induction t with
  | zero => intro ht; have := key 0 ht hp; exact ⟨hp, this.1, this.2.1⟩
  | succ t ih =>
    intro ht
    obtain ⟨h1, h2, h3⟩ := ih (by omega)
    have h4 := (key t (by omega) h1).2.2
    have := key (t + 1) ht h4
    exact ⟨h4, this.1, this.2.1⟩
/-- what the reference's side keeps of place q -/
def mSd (F G : Nat → Int32) (na nb : Nat) (K : Nat → Int32) (n o : Nat) (be ma go : Nat → Int32) (q : Nat) : Prop :=
  be (o + q) = nI (ps F G na nb (stp K n q)).2 ∧ ma (o + q) = nI (eiF K (n - stp K n q) (stp K n q) - stp K n q) ∧ (q < na → go (o + q) = if K (eiF K (n - stp K n q) (stp K n q)) = nI 1 then nI 1 else nI 0)
theorem mSd_up {F G K be ma go : Nat → Int32} {na nb n o i : Nat} {x y z : Int32} (h : ∀ q, q < i → mSd F G na nb K n o be ma go q) (hx : x = nI (ps F G na nb (stp K n i)).2) (hy : y = nI (eiF K (n - stp K n i) (stp K n i) - stp K n i)) (hz : i < na → z = if K (eiF K (n - stp K n i) (stp K n i)) = nI 1 then nI 1 else nI 0) :
    ∀ q, q < i + 1 → mSd F G na nb K n o (upd be (o + i) x) (upd ma (o + i) y) (upd go (o + i) z) q := by
  intro q hq
  unfold mSd
  by_cases e : q = i
  · rw [e, pk_us, pk_us, pk_us]; exact ⟨hx, hy, hz⟩
  · rw [pk_un (by omega), pk_un (by omega), pk_un (by omega)]; exact h q (by omega)
theorem mSd_keep {F G K be ma go be' ma' go' : Nat → Int32} {na nb n o q : Nat} (h : mSd F G na nb K n o be ma go q) (h2 : be' (o + q) = be (o + q) ∧ ma' (o + q) = ma (o + q) ∧ go' (o + q) = go (o + q)) : mSd F G na nb K n o be' ma' go' q := by
  unfold mSd
  rw [h2.1, h2.2.1, h2.2.2]
  exact h
theorem up_keep {be ma go be1 ma1 go1 : Nat → Int32} {o i : Nat} {x y z : Int32} (hi : i ≤ 120) (h : ∀ q, q < o ∨ o + 121 ≤ q → be1 q = be q ∧ ma1 q = ma q ∧ go1 q = go q) : ∀ q, q < o ∨ o + 121 ≤ q → upd be1 (o + i) x q = be q ∧ upd ma1 (o + i) y q = ma q ∧ upd go1 (o + i) z q = go q := by
  intro q hq
  rw [pk_un (by omega), pk_un (by omega), pk_un (by omega)]
  exact h q hq
