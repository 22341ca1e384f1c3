/-! ===== MATHS 2: a made script's kinds count its places ===== -/
theorem kd_le {F G : Nat → Int32} {na nb i j : Nat} : kd F G na nb i j ≤ 2 := by
  unfold kd
  split
  · omega
  · split <;> omega
theorem agr_plc {F G K1 F1 G1 V1 : Nat → Int32} {na nb n : Nat} (h : agr F G na nb K1 F1 G1 V1 n) : ∀ k, k ≤ n → plc K1 (nI 2) k = (ps F G na nb k).1 ∧ plc K1 (nI 1) k = (ps F G na nb k).2 ∧ k ≤ (ps F G na nb k).1 + (ps F G na nb k).2 := by
  intro k
  induction k with
  | zero => intro _; exact ⟨rfl, rfl, Nat.le_refl 0⟩
  | succ k ih =>
    intro hk
    obtain ⟨h1, h2, h3⟩ := ih (by omega)
    obtain ⟨hK, -⟩ := h k (by omega)
    have hle := kd_le (F := F) (G := G) (na := na) (nb := nb) (i := (ps F G na nb k).1) (j := (ps F G na nb k).2)
    rw [ps_s]
    rcases (show kd F G na nb (ps F G na nb k).1 (ps F G na nb k).2 = 0 ∨ kd F G na nb (ps F G na nb k).1 (ps F G na nb k).2 = 1 ∨ kd F G na nb (ps F G na nb k).1 (ps F G na nb k).2 = 2 by omega) with e | e | e
    · rw [e] at hK
      have e1 : ¬ K1 k = nI 2 := by rw [hK]; decide
      have e2 : ¬ K1 k = nI 1 := by rw [hK]; decide
      rw [plc_yes e1, plc_yes e2, e, h1, h2]
      refine ⟨rfl, rfl, ?_⟩
      show k + 1 ≤ (ps F G na nb k).1 + 1 + ((ps F G na nb k).2 + 1)
      omega
    · rw [e] at hK
      have e1 : ¬ K1 k = nI 2 := by rw [hK]; decide
      rw [plc_yes e1, plc_no hK, e, h1, h2]
      refine ⟨rfl, rfl, ?_⟩
      show k + 1 ≤ (ps F G na nb k).1 + 1 + (ps F G na nb k).2
      omega
    · rw [e] at hK
      have e2 : ¬ K1 k = nI 1 := by rw [hK]; decide
      rw [plc_no hK, plc_yes e2, e, h1, h2]
      refine ⟨rfl, rfl, ?_⟩
      show k + 1 ≤ (ps F G na nb k).1 + ((ps F G na nb k).2 + 1)
      omega
/-- the numbers of a made script -/
theorem agr_end {F G K1 F1 G1 V1 : Nat → Int32} {na nb n : Nat} (h : agr F G na nb K1 F1 G1 V1 n) (he : ps F G na nb n = (na, nb)) : plc K1 (nI 2) n = na ∧ plc K1 (nI 1) n = nb ∧ n ≤ na + nb := by
  obtain ⟨h1, h2, h3⟩ := agr_plc h n (Nat.le_refl n)
  rw [he] at h1 h2 h3
  exact ⟨h1, h2, h3⟩
