/-! ===== MATHS of the reference: its rows, its costs, its scripts ===== -/
def mSz (ns : Nat → Nat) (sz : Nat → Int32) : Prop := ∀ r, r < 8 → sz r = nI (ns r)
def mRw (ns : Nat → Nat) (fs : Nat → Nat → Int32) (rr : Nat → Int32) : Prop := ∀ r, r < 8 → ∀ j, j < ns r → rr (120 * r + j) = fs r j
theorem mSz_up {ns : Nat → Nat} {sz : Nat → Int32} {r n : Nat} (h : mSz ns sz) : mSz (va_up ns r n) (upd sz r (nI n)) := by
  intro q hq
  by_cases e : q = r
  · rw [e, pk_us, va_up_self]
  · rw [pk_un e, va_up_ne _ _ e]; exact h q hq
theorem mRw_add {ns : Nat → Nat} {fs : Nat → Nat → Int32} {rr : Nat → Int32} {r : Nat} {v : Int32} (hns : ∀ r, r < 8 → ns r ≤ 120) (h : mRw ns fs rr) (hr : r < 8) (hn : ns r < 120) : mRw (va_up ns r (ns r + 1)) (va_up fs r (upd (fs r) (ns r) v)) (upd rr (120 * r + ns r) v) := by
  intro q hq j hj
  by_cases e : q = r
  · subst e
    rw [va_up_self] at hj ⊢
    by_cases e2 : j = ns q
    · rw [e2, pk_us, pk_us]
    · rw [pk_un (by omega), pk_un e2]; exact h q hq j (by omega)
  · rw [va_up_ne _ _ e] at hj ⊢
    have := hns q hq
    rw [pk_un (by omega)]
    exact h q hq j hj
theorem mRw_wipe {ns : Nat → Nat} {fs : Nat → Nat → Int32} {rr : Nat → Int32} {r : Nat} (h : mRw ns fs rr) : mRw (va_up ns r 0) fs rr := by
  intro q hq j hj
  by_cases e : q = r
  · subst e; rw [va_up_self] at hj; exact absurd hj (Nat.not_lt_zero j)
  · rw [va_up_ne _ _ e] at hj; exact h q hq j hj
