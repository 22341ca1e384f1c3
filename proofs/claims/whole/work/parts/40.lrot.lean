/-! ===== a cell that was made last goes to the end of the first list ===== -/
theorem z_rot {α : Type} {X T : List α} {c : α} : ∀ k, k < X.length + T.length + 1 → ((X ++ [c]) ++ T)[k]? = ((X ++ T) ++ [c])[if k < X.length then k else if k = X.length then X.length + T.length else k - 1]? := by
  intro k hk
  by_cases h1 : k < X.length
  · rw [if_pos h1, List.append_assoc, List.append_assoc, List.getElem?_append_left h1, List.getElem?_append_left h1]
  · by_cases h2 : k = X.length
    · rw [if_neg h1, if_pos h2, h2]
      have a1 : ((X ++ [c]) ++ T)[X.length]? = some c := by rw [List.append_assoc, List.getElem?_append_right (Nat.le_refl _), Nat.sub_self]; rfl
      have a2 : ((X ++ T) ++ [c])[X.length + T.length]? = some c := by rw [List.getElem?_append_right (by rw [List.length_append]; exact Nat.le_refl _), List.length_append, Nat.sub_self]; rfl
      rw [a1, a2]
    · rw [if_neg h1, if_neg h2, List.getElem?_append_right (by rw [List.length_append]; simp; omega), List.length_append, List.getElem?_append_left (by rw [List.length_append]; omega), List.getElem?_append_right (by omega)]
      congr 1
      simp
      omega
theorem z_rotlt {α : Type} {X T : List α} {c q : α} {k : Nat} (h : ((X ++ [c]) ++ T)[k]? = some q) : k < X.length + T.length + 1 := by
  have := (List.getElem?_eq_some_iff.mp h).1
  rw [List.length_append, List.length_append] at this
  simp at this
  omega
theorem z_rotP {D : va_G} {cl : List vw_C} {X T : va_W} {c : Nat × va_E} {H : Heap} (h : va_P D cl ((X ++ T) ++ [c]) H) : va_P D cl ((X ++ [c]) ++ T) H := fun k q hk => h _ q (by rw [← z_rot k (z_rotlt hk)]; exact hk)
theorem z_rotD {A : Nat → Prop} {X T : va_W} {c : Nat × va_E} (h : va_D A ((X ++ T) ++ [c])) : va_D A ((X ++ [c]) ++ T) := by
  refine ⟨fun i j p q hi hj e => ?_, fun k q hk => h.2 _ q (by rw [← z_rot k (z_rotlt hk)]; exact hk)⟩
  have h1 := z_rotlt hi
  have h2 := z_rotlt hj
  have h3 := h.1 _ _ p q (by rw [← z_rot i h1]; exact hi) (by rw [← z_rot j h2]; exact hj) e
  revert h3
  split <;> split <;> (try split) <;> (try split) <;> omega
