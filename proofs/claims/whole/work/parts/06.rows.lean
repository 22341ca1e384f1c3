abbrev zT (cI cJ cR : ClassId) : List (ClassId × FieldType) := [(cI, .int), (cJ, .long), (cR, .object RX2)]
/-! ===== the cells of a Row: its object at place j of a tail, its array behind it ===== -/
abbrev rO (h q n : Nat) : Nat × va_E := (h, .inr (2, [.ref q, .int (nI n)]))
abbrev rF (cI : ClassId) (q : Nat) (f : Nat → Int32) : Nat × va_E := (q, .inl (cI, 120, .inl f))
def rA (cI : ClassId) (Rw : va_W) (j h q n : Nat) (f : Nat → Int32) : va_W := (Rw.set j (rO h q n)).set (j + 1) (rF cI q f)
theorem rA_o {cI : ClassId} {Rw : va_W} {j h q n : Nat} {f : Nat → Int32} (hj : j + 1 < Rw.length) : (rA cI Rw j h q n f)[j]? = some (rO h q n) := by
  unfold rA
  rw [List.getElem?_set_ne (by omega), List.getElem?_set_self (by omega)]
theorem rA_a {cI : ClassId} {Rw : va_W} {j h q n : Nat} {f : Nat → Int32} (hj : j + 1 < Rw.length) : (rA cI Rw j h q n f)[j + 1]? = some (rF cI q f) := by
  unfold rA
  rw [List.getElem?_set_self (by rw [List.length_set]; omega)]
theorem rA_seto {cI : ClassId} {Rw : va_W} {j h q n n' : Nat} {f : Nat → Int32} : (rA cI Rw j h q n f).set j (rO h q n') = rA cI Rw j h q n' f := by
  unfold rA
  rw [List.set_comm _ _ (by omega), List.set_set]
theorem rA_seta {cI : ClassId} {Rw : va_W} {j h q n : Nat} {f f' : Nat → Int32} : (rA cI Rw j h q n f).set (j + 1) (rF cI q f') = rA cI Rw j h q n f' := by
  unfold rA
  rw [List.set_set]
theorem rA_len {cI : ClassId} {Rw : va_W} {j h q n : Nat} {f : Nat → Int32} : (rA cI Rw j h q n f).length = Rw.length := by
  unfold rA
  rw [List.length_set, List.length_set]
/-- the eight rows -/
def rowsW (cI : ClassId) (hs qs ns : Nat → Nat) (fs : Nat → Nat → Int32) : va_W := (List.range 8).flatMap (fun r => [rO (hs r) (qs r) (ns r), rF cI (qs r) (fs r)])
theorem rowsW_len {cI : ClassId} {hs qs ns : Nat → Nat} {fs : Nat → Nat → Int32} : (rowsW cI hs qs ns fs).length = 16 := rfl
theorem rowsW_o {cI : ClassId} {hs qs ns : Nat → Nat} {fs : Nat → Nat → Int32} : ∀ {r : Nat}, r < 8 → (rowsW cI hs qs ns fs)[2 * r]? = some (rO (hs r) (qs r) (ns r))
  | 0, _ => rfl
  | 1, _ => rfl
  | 2, _ => rfl
  | 3, _ => rfl
  | 4, _ => rfl
  | 5, _ => rfl
  | 6, _ => rfl
  | 7, _ => rfl
  | r + 8, h => absurd h (by omega)
theorem rowsW_a {cI : ClassId} {hs qs ns : Nat → Nat} {fs : Nat → Nat → Int32} : ∀ {r : Nat}, r < 8 → (rowsW cI hs qs ns fs)[2 * r + 1]? = some (rF cI (qs r) (fs r))
  | 0, _ => rfl
  | 1, _ => rfl
  | 2, _ => rfl
  | 3, _ => rfl
  | 4, _ => rfl
  | 5, _ => rfl
  | 6, _ => rfl
  | 7, _ => rfl
  | r + 8, h => absurd h (by omega)
theorem rowsW_set {cI : ClassId} {hs qs ns : Nat → Nat} {fs : Nat → Nat → Int32} {n : Nat} {f : Nat → Int32} : ∀ {r : Nat}, r < 8 → rA cI (rowsW cI hs qs ns fs) (2 * r) (hs r) (qs r) n f = rowsW cI hs qs (va_up ns r n) (va_up fs r f)
  | 0, _ => rfl
  | 1, _ => rfl
  | 2, _ => rfl
  | 3, _ => rfl
  | 4, _ => rfl
  | 5, _ => rfl
  | 6, _ => rfl
  | 7, _ => rfl
  | r + 8, h => absurd h (by omega)
theorem va_up_id {α : Type} {f : Nat → α} {k : Nat} : va_up f k (f k) = f := by
  funext j
  unfold va_up
  by_cases e : j = k
  · rw [if_pos e, e]
  · rw [if_neg e]
theorem rowsW_rA {cI : ClassId} {hs qs ns : Nat → Nat} {fs : Nat → Nat → Int32} {r : Nat} (hr : r < 8) : rA cI (rowsW cI hs qs ns fs) (2 * r) (hs r) (qs r) (ns r) (fs r) = rowsW cI hs qs ns fs := by
  rw [rowsW_set hr, va_up_id, va_up_id]
