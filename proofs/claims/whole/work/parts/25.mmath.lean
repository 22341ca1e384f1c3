/-! ===== MATHS of the reference: its rows, its costs, its scripts ===== -/
def mSz (ns : Nat → Nat) (sz : Nat → Int32) : Prop := ∀ r, r < 8 → sz r = nI (ns r)
def mRw (ns : Nat → Nat) (fs : Nat → Nat → Int32) (rr : Nat → Int32) : Prop := ∀ r, r < 8 → ∀ j, j < ns r → rr (120 * r + j) = fs r j
theorem mSz_up {ns : Nat → Nat} {sz : Nat → Int32} {r n : Nat} (h : mSz ns sz) : mSz (va_up ns r n) (upd sz r (nI n)) := by
  intro q hq
  by_cases e : q = r
  · rw [e, pk_us, va_up_self]
  · rw [pk_un e, va_up_ne _ _ e]; exact h q hq
theorem mRw_add {ns : Nat → Nat} {fs : Nat → Nat → Int32} {rr : Nat → Int32} {r : Nat} {v : Int32} (hns : ∀ r, r < 8 → ns r ≤ 120) (h : mRw ns fs rr) (hr : r < 8) (hn : ns r < 120) : mRw (va_up ns r (ns r + 1)) (va_up fs r (upd (fs r) (ns r) v)) (upd rr (120 * r + ns r) v) := by
  intro q hq j hj
  by_cases e : q = r
  · subst e
    rw [va_up_self] at hj ⊢
    by_cases e2 : j = ns q
    · rw [e2, pk_us, pk_us]
    · rw [pk_un (by omega), pk_un e2]; exact h q hq j (by omega)
  · rw [va_up_ne _ _ e] at hj ⊢
    have := hns q hq
    rw [pk_un (by omega)]
    exact h q hq j hj
theorem mRw_wipe {ns : Nat → Nat} {fs : Nat → Nat → Int32} {rr : Nat → Int32} {r : Nat} (h : mRw ns fs rr) : mRw (va_up ns r 0) fs rr := by
  intro q hq j hj
  by_cases e : q = r
  · subst e; rw [va_up_self] at hj; exact absurd hj (Nat.not_lt_zero j)
  · rw [va_up_ne _ _ e] at hj; exact h q hq j hj
/-- the table of costs, as far as it is filled -/
def mCo (F G : Nat → Int32) (na nb : Nat) (co : Nat → Int32) : Prop := ∀ i j, i ≤ na → j ≤ nb → co (121 * i + j) = nI (dc F G na nb i j)
theorem up_co {co : Nat → Int32} {q : Nat → Nat → Int32} {d e na nb : Nat} {v : Int32} (h : ∀ i j, (d < i ∨ (i = d ∧ e + 1 ≤ j)) → i ≤ na → j ≤ nb → co (121 * i + j) = q i j) (hnb : nb ≤ 120) (he : e ≤ nb) (hv : v = q d e) : ∀ i j, (d < i ∨ (i = d ∧ e ≤ j)) → i ≤ na → j ≤ nb → upd co (121 * d + e) v (121 * i + j) = q i j := by
  intro i j h1 h2 h3
  by_cases c : i = d ∧ j = e
  · rw [c.1, c.2, pk_us, hv]
  · rw [pk_un (by omega)]
    exact h i j (by omega) h2 h3
theorem kd_cases {F G : Nat → Int32} {na nb i j : Nat} (hi : i ≤ na) (hj : j ≤ nb) (h : ¬ (i = na ∧ j = nb)) : (kd F G na nb i j = 0 ∧ i < na ∧ j < nb) ∨ (kd F G na nb i j = 1 ∧ i < na) ∨ (kd F G na nb i j = 2 ∧ j < nb) := by
  by_cases h1 : i < na
  · by_cases h2 : j < nb ∧ F i = G j
    · exact Or.inl ⟨kd_0 h1 h2.1 h2.2, h1, h2.1⟩
    · by_cases h3 : nb ≤ j ∨ dc F G na nb (i + 1) j ≤ dc F G na nb i (j + 1)
      · exact Or.inr (Or.inl ⟨kd_1 h1 h2 h3, h1⟩)
      · have h4 : j < nb := by omega
        exact Or.inr (Or.inr ⟨kd_2b h4 h2 (fun z => h3 (Or.inr z)), h4⟩)
  · exact Or.inr (Or.inr ⟨kd_2a h1, by omega⟩)
/-- a script of the class, and the reference's arrays that hold the same -/
def mScr (ar : Nat → Nat → Int32) (mk mf mg mv : Nat → Int32) (n : Nat) : Prop := ∀ k, k < n → mk k = ar 1 k ∧ mf k = ar 2 k ∧ mg k = ar 3 k ∧ mv k = ar 4 k
def mKi (K : Nat → Int32) (n : Nat) : Prop := ∀ k, k < n → K k = nI 0 ∨ K k = nI 1 ∨ K k = nI 2
def mEnt (ar : Nat → Nat → Int32) (va pu ta pl : Nat → Int32) (n : Nat) : Prop := ∀ k, k < n → va k = ar 13 k ∧ pu k = ar 14 k ∧ ta k = ar 15 k ∧ pl k = ar 16 k
theorem sw_lo {y : Int32} (h : y < 0) : y.toInt < 0 ∨ 3 < y.toInt := Or.inl (by rw [Int32.lt_iff_toInt_lt] at h; exact h)
theorem sw_hi {y : Int32} (h : ¬ y ≤ nI 3) : y.toInt < 0 ∨ 3 < y.toInt := by
  rw [Int32.le_iff_toInt_le, nI_toInt (by decide)] at h
  exact Or.inr (by omega)
theorem sw_of {y : Int32} (h1 : ¬ y < 0) (h2 : y ≤ nI 3) : y = nI 0 ∨ y = nI 1 ∨ y = nI 2 ∨ y = nI 3 := by
  rcases z_sw y with h | h | h | h | h
  · exact Or.inl h
  · exact Or.inr (Or.inl h)
  · exact Or.inr (Or.inr (Or.inl h))
  · exact Or.inr (Or.inr (Or.inr h))
  · exfalso
    rw [Int32.lt_iff_toInt_lt] at h1
    rw [Int32.le_iff_toInt_le, nI_toInt (by decide)] at h2
    have h4 : (0 : Int32).toInt = 0 := by decide
    omega
theorem ki_le {K : Nat → Int32} {n k : Nat} (h : mKi K n) (hk : k < n) (h2 : K k ≤ 0) : K k = 0 := by
  rcases h k hk with e | e | e
  · rw [e]; decide
  · rw [e] at h2; exact absurd h2 (by decide)
  · rw [e] at h2; exact absurd h2 (by decide)
theorem ki_nle {K : Nat → Int32} {k : Nat} (h2 : ¬ K k ≤ 0) : ¬ K k = 0 := fun e => h2 (by rw [e]; decide)
theorem ki_oth {K : Nat → Int32} {n k : Nat} {x y : Int32} (h : mKi K n) (hk : k < n) (hxy : (x = nI 1 ∧ y = nI 2) ∨ (x = nI 2 ∧ y = nI 1)) (h0 : ¬ K k = 0) (hx : ¬ K k = x) : K k = y := by
  rcases hxy with ⟨rfl, rfl⟩ | ⟨rfl, rfl⟩ <;> rcases h k hk with e | e | e
  · exact absurd (by rw [e]; decide) h0
  · exact absurd e hx
  · exact e
  · exact absurd (by rw [e]; decide) h0
  · exact e
  · exact absurd e hx
theorem z_sub0 (x : Int32) : x - nI 0 = x := by rw [nI_0, Int32.sub_zero]
theorem z_le0 {m : Nat} (hm : m < 2 ^ 31) (h : nI m ≤ 0) : m = 0 := by
  rw [← nI_0] at h
  have := (nI_leI hm (by decide)).mp h
  omega
theorem z_nle0 {m : Nat} (hm : m < 2 ^ 31) (h : ¬ nI m ≤ 0) : 0 < m := by
  rcases Nat.eq_zero_or_pos m with e | e
  · exact absurd (by rw [e]; decide) h
  · exact e
theorem plc_surj {K : Nat → Int32} {x : Int32} : ∀ n j, j < plc K x n → ∃ k, k < n ∧ ¬ K k = x ∧ plc K x k = j := by
  intro n
  induction n with
  | zero => intro j h; exact absurd h (Nat.not_lt_zero j)
  | succ n ih =>
    intro j h
    by_cases e : K n = x
    · rw [plc_no e] at h
      obtain ⟨k, h1, h2⟩ := ih j h
      exact ⟨k, by omega, h2⟩
    · rw [plc_yes e] at h
      rcases Nat.lt_or_ge j (plc K x n) with z | z
      · obtain ⟨k, h1, h2⟩ := ih j z
        exact ⟨k, by omega, h2⟩
      · exact ⟨n, by omega, e, by omega⟩
theorem ct_surj {P : Nat → Bool} : ∀ n j, j < ct P n → ∃ k, k < n ∧ P k = true ∧ ct P k = j := by
  intro n
  induction n with
  | zero => intro j h; exact absurd h (Nat.not_lt_zero j)
  | succ n ih =>
    intro j h
    by_cases e : P n = true
    · rw [ct_yes e] at h
      rcases Nat.lt_or_ge j (ct P n) with z | z
      · obtain ⟨k, h1, h2⟩ := ih j z
        exact ⟨k, by omega, h2⟩
      · exact ⟨n, by omega, e, by omega⟩
    · rw [ct_no e] at h
      obtain ⟨k, h1, h2⟩ := ih j h
      exact ⟨k, by omega, h2⟩
theorem mRw_store {ns : Nat → Nat} {fs : Nat → Nat → Int32} {rr rr' md f : Nat → Int32} {r n : Nat} (hns : ∀ r, r < 8 → ns r ≤ 120) (h : mRw ns fs rr) (h1 : ∀ j, j < n → rr' (120 * r + j) = md j) (h2 : ∀ q, q < 120 * r ∨ 120 * r + 120 ≤ q → rr' q = rr q) (hf : ∀ j, j < n → md j = f j) : mRw (va_up ns r n) (va_up fs r f) rr' := by
  intro q hq j hj
  by_cases e : q = r
  · subst e
    rw [va_up_self] at hj ⊢
    rw [h1 j hj, hf j hj]
  · rw [va_up_ne _ _ e] at hj ⊢
    have := hns q hq
    rw [h2 _ (by omega)]
    exact h q hq j hj
theorem sn_1 {I E : Nat → Int32} {x : Int32} {k : Nat} (h : I k = 0 ∨ ¬ I k &&& x = 0) (h2 : E k &&& x = 0) : sn I E x k = true := by
  unfold sn
  rcases h with h | h <;> simp [h, h2]
theorem sn_0a {I E : Nat → Int32} {x : Int32} {k : Nat} (h : ¬ I k = 0) (h2 : I k &&& x = 0) : ¬ sn I E x k = true := by
  unfold sn
  simp [h, h2]
theorem sn_0b {I E : Nat → Int32} {x : Int32} {k : Nat} (h : ¬ E k &&& x = 0) : ¬ sn I E x k = true := by
  unfold sn
  simp [h]
