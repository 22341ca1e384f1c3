/-! ===== MATHS of the reference: its rows, its costs, its scripts ===== -/
def mSz (ns : Nat → Nat) (sz : Nat → Int32) : Prop := ∀ r, r < 8 → sz r = nI (ns r)
def mRw (ns : Nat → Nat) (fs : Nat → Nat → Int32) (rr : Nat → Int32) : Prop := ∀ r, r < 8 → ∀ j, j < ns r → rr (120 * r + j) = fs r j
theorem mSz_up {ns : Nat → Nat} {sz : Nat → Int32} {r n : Nat} (h : mSz ns sz) : mSz (va_up ns r n) (upd sz r (nI n)) := by
  intro q hq
  by_cases e : q = r
  · rw [e, pk_us, va_up_self]
  · rw [pk_un e, va_up_ne _ _ e]; exact h q hq
theorem mRw_add {ns : Nat → Nat} {fs : Nat → Nat → Int32} {rr : Nat → Int32} {r : Nat} {v : Int32} (hns : ∀ r, r < 8 → ns r ≤ 120) (h : mRw ns fs rr) (hr : r < 8) (hn : ns r < 120) : mRw (va_up ns r (ns r + 1)) (va_up fs r (upd (fs r) (ns r) v)) (upd rr (120 * r + ns r) v) := by
  intro q hq j hj
  by_cases e : q = r
  · subst e
    rw [va_up_self] at hj ⊢
    by_cases e2 : j = ns q
    · rw [e2, pk_us, pk_us]
    · rw [pk_un (by omega), pk_un e2]; exact h q hq j (by omega)
  · rw [va_up_ne _ _ e] at hj ⊢
    have := hns q hq
    rw [pk_un (by omega)]
    exact h q hq j hj
theorem mRw_wipe {ns : Nat → Nat} {fs : Nat → Nat → Int32} {rr : Nat → Int32} {r : Nat} (h : mRw ns fs rr) : mRw (va_up ns r 0) fs rr := by
  intro q hq j hj
  by_cases e : q = r
  · subst e; rw [va_up_self] at hj; exact absurd hj (Nat.not_lt_zero j)
  · rw [va_up_ne _ _ e] at hj; exact h q hq j hj
/-- the table of costs, as far as it is filled -/
def mCo (F G : Nat → Int32) (na nb : Nat) (co : Nat → Int32) : Prop := ∀ i j, i ≤ na → j ≤ nb → co (121 * i + j) = nI (dc F G na nb i j)
theorem up_co {co : Nat → Int32} {q : Nat → Nat → Int32} {d e na nb : Nat} {v : Int32} (h : ∀ i j, (d < i ∨ (i = d ∧ e + 1 ≤ j)) → i ≤ na → j ≤ nb → co (121 * i + j) = q i j) (hnb : nb ≤ 120) (he : e ≤ nb) (hv : v = q d e) : ∀ i j, (d < i ∨ (i = d ∧ e ≤ j)) → i ≤ na → j ≤ nb → upd co (121 * d + e) v (121 * i + j) = q i j := by
  intro i j h1 h2 h3
  by_cases c : i = d ∧ j = e
  · rw [c.1, c.2, pk_us, hv]
  · rw [pk_un (by omega)]
    exact h i j (by omega) h2 h3
theorem kd_cases {F G : Nat → Int32} {na nb i j : Nat} (hi : i ≤ na) (hj : j ≤ nb) (h : ¬ (i = na ∧ j = nb)) : (kd F G na nb i j = 0 ∧ i < na ∧ j < nb) ∨ (kd F G na nb i j = 1 ∧ i < na) ∨ (kd F G na nb i j = 2 ∧ j < nb) := by
  by_cases h1 : i < na
  · by_cases h2 : j < nb ∧ F i = G j
    · exact Or.inl ⟨kd_0 h1 h2.1 h2.2, h1, h2.1⟩
    · by_cases h3 : nb ≤ j ∨ dc F G na nb (i + 1) j ≤ dc F G na nb i (j + 1)
      · exact Or.inr (Or.inl ⟨kd_1 h1 h2 h3, h1⟩)
      · have h4 : j < nb := by omega
        exact Or.inr (Or.inr ⟨kd_2b h4 h2 (fun z => h3 (Or.inr z)), h4⟩)
  · exact Or.inr (Or.inr ⟨kd_2a h1, by omega⟩)
