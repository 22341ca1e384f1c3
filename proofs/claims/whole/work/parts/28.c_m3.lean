abbrev rm_X5_steps : Room := { frames := 0, cells := 0, slots := 0, locals := 0 }
set_option maxHeartbeats 4000000 in
set_option maxRecDepth 100000 in
theorem c_M_steps (l : Launch) (dC : Nat → ClassId) (dI : Nat → Nat → Nat) (cI cS cB cZ : ClassId) (am : Nat → Nat) (cd st en cf : Int32)  : zI l (dC, dI) vwCl (zTm cI cS cB cZ) zNW yX5_steps wsX5_steps rm_X5_steps [.ref (am 0)] ([(am 0, .inr (5, [.int cd, .ref (am 1), .ref (am 2), .ref (am 3), .int st, .ref (am 4), .ref (am 5), .ref (am 6), .ref (am 7), .ref (am 8), .ref (am 9), .ref (am 10), .int en, .int cf, .ref (am 11), .ref (am 12), .ref (am 13), .ref (am 14), .ref (am 15)]))] : va_W) (fun z w => z = st ∧ w = ([(am 0, .inr (5, [.int (nI 0), .ref (am 1), .ref (am 2), .ref (am 3), .int st, .ref (am 4), .ref (am 5), .ref (am 6), .ref (am 7), .ref (am 8), .ref (am 9), .ref (am 10), .int en, .int cf, .ref (am 11), .ref (am 12), .ref (am 13), .ref (am 14), .ref (am 15)]))] : va_W)) := by
  refine z_ofI (cc := cX5_steps) (maxL := 1) (Or.inl rfl) (by decide) rfl (Nat.le_of_ble_eq_true rfl) ?_
  intro p e s m args below meth c A Q ls hI hret
  obtain ⟨hx, hb, hml, hown, hts, hnm, hA, hK, hN, hP, hD, hS, hl⟩ := hI
  have hown : s.vm.findClass RX5 = some m.cls := hown
  have hl : lv_has ls 1 [(0, .ref (am 0))] := hl
  have hP : va_P (dC, dI) vwCl (([(am 0, .inr (5, [.int cd, .ref (am 1), .ref (am 2), .ref (am 3), .int st, .ref (am 4), .ref (am 5), .ref (am 6), .ref (am 7), .ref (am 8), .ref (am 9), .ref (am 10), .int en, .int cf, .ref (am 11), .ref (am 12), .ref (am 13), .ref (am 14), .ref (am 15)]))] : va_W) ++ ([] : va_W)) s.heap := hP
  have hD : va_D A (([(am 0, .inr (5, [.int cd, .ref (am 1), .ref (am 2), .ref (am 3), .int st, .ref (am 4), .ref (am 5), .ref (am 6), .ref (am 7), .ref (am 8), .ref (am 9), .ref (am 10), .int en, .int cf, .ref (am 11), .ref (am 12), .ref (am 13), .ref (am 14), .ref (am 15)]))] : va_W) ++ ([] : va_W)) := hD
  have hz : ∀ w ∈ zW, w.before args s = true := fun w h => hts w (List.mem_cons_of_mem _ h)
  refine lv_aload_n hx hb dX5_steps_0 rfl (lv_at hl 0 rfl) ?_
  refine lv_iconst (v := nI 0) hx hb dX5_steps_1 (by decide) ?_
  refine va_put (D := (dC, dI)) (ci := 5) (v := .int (nI 0)) (ty := .int) (C := RX5) (T := TX5) (N := 19) hx hb hz hinX5 tyX5 tyX5_ok nmX5 hown hK hP hD hS 0 rfl rfl 0 (by decide) (hz _ zw_478) (fun _ h9 => h9) rfl (by decide +kernel) rfl rfl (Nat.le_of_ble_eq_true rfl) dX5_steps_2 (fun H locs hP hD hS => ?_)
  have hP : va_P (dC, dI) vwCl (([(am 0, .inr (5, [.int (nI 0), .ref (am 1), .ref (am 2), .ref (am 3), .int st, .ref (am 4), .ref (am 5), .ref (am 6), .ref (am 7), .ref (am 8), .ref (am 9), .ref (am 10), .int en, .int cf, .ref (am 11), .ref (am 12), .ref (am 13), .ref (am 14), .ref (am 15)]))] : va_W) ++ ([] : va_W)) H := hP
  have hD : va_D A (([(am 0, .inr (5, [.int (nI 0), .ref (am 1), .ref (am 2), .ref (am 3), .int st, .ref (am 4), .ref (am 5), .ref (am 6), .ref (am 7), .ref (am 8), .ref (am 9), .ref (am 10), .int en, .int cf, .ref (am 11), .ref (am 12), .ref (am 13), .ref (am 14), .ref (am 15)]))] : va_W) ++ ([] : va_W)) := hD
  refine lv_aload_n hx hb dX5_steps_5 rfl (lv_at hl 0 rfl) ?_
  refine va_get (D := (dC, dI)) (ci := 5) (v := .int st) (C := RX5) (T := TX5) (N := 19) hx hb hz hinX5 hown hK hP 0 rfl rfl 4 (by decide) (hz _ zw_482) (fun _ h9 => h9) rfl dX5_steps_6 ?_
  exact hret H locs _ ([(am 0, .inr (5, [.int (nI 0), .ref (am 1), .ref (am 2), .ref (am 3), .int st, .ref (am 4), .ref (am 5), .ref (am 6), .ref (am 7), .ref (am 8), .ref (am 9), .ref (am 10), .int en, .int cf, .ref (am 11), .ref (am 12), .ref (am 13), .ref (am 14), .ref (am 15)]))] : va_W) _ ls hP hD hS dX5_steps_9 ⟨rfl, rfl⟩

abbrev rm_X5_conflicts : Room := { frames := 0, cells := 0, slots := 0, locals := 0 }
set_option maxHeartbeats 4000000 in
set_option maxRecDepth 100000 in
theorem c_M_conflicts (l : Launch) (dC : Nat → ClassId) (dI : Nat → Nat → Nat) (cI cS cB cZ : ClassId) (am : Nat → Nat) (cd st en cf : Int32)  : zI l (dC, dI) vwCl (zTm cI cS cB cZ) zNW yX5_conflicts wsX5_conflicts rm_X5_conflicts [.ref (am 0)] ([(am 0, .inr (5, [.int cd, .ref (am 1), .ref (am 2), .ref (am 3), .int st, .ref (am 4), .ref (am 5), .ref (am 6), .ref (am 7), .ref (am 8), .ref (am 9), .ref (am 10), .int en, .int cf, .ref (am 11), .ref (am 12), .ref (am 13), .ref (am 14), .ref (am 15)]))] : va_W) (fun z w => z = cf ∧ w = ([(am 0, .inr (5, [.int (nI 0), .ref (am 1), .ref (am 2), .ref (am 3), .int st, .ref (am 4), .ref (am 5), .ref (am 6), .ref (am 7), .ref (am 8), .ref (am 9), .ref (am 10), .int en, .int cf, .ref (am 11), .ref (am 12), .ref (am 13), .ref (am 14), .ref (am 15)]))] : va_W)) := by
  refine z_ofI (cc := cX5_conflicts) (maxL := 1) (Or.inl rfl) (by decide) rfl (Nat.le_of_ble_eq_true rfl) ?_
  intro p e s m args below meth c A Q ls hI hret
  obtain ⟨hx, hb, hml, hown, hts, hnm, hA, hK, hN, hP, hD, hS, hl⟩ := hI
  have hown : s.vm.findClass RX5 = some m.cls := hown
  have hl : lv_has ls 1 [(0, .ref (am 0))] := hl
  have hP : va_P (dC, dI) vwCl (([(am 0, .inr (5, [.int cd, .ref (am 1), .ref (am 2), .ref (am 3), .int st, .ref (am 4), .ref (am 5), .ref (am 6), .ref (am 7), .ref (am 8), .ref (am 9), .ref (am 10), .int en, .int cf, .ref (am 11), .ref (am 12), .ref (am 13), .ref (am 14), .ref (am 15)]))] : va_W) ++ ([] : va_W)) s.heap := hP
  have hD : va_D A (([(am 0, .inr (5, [.int cd, .ref (am 1), .ref (am 2), .ref (am 3), .int st, .ref (am 4), .ref (am 5), .ref (am 6), .ref (am 7), .ref (am 8), .ref (am 9), .ref (am 10), .int en, .int cf, .ref (am 11), .ref (am 12), .ref (am 13), .ref (am 14), .ref (am 15)]))] : va_W) ++ ([] : va_W)) := hD
  have hz : ∀ w ∈ zW, w.before args s = true := fun w h => hts w (List.mem_cons_of_mem _ h)
  refine lv_aload_n hx hb dX5_conflicts_0 rfl (lv_at hl 0 rfl) ?_
  refine lv_iconst (v := nI 0) hx hb dX5_conflicts_1 (by decide) ?_
  refine va_put (D := (dC, dI)) (ci := 5) (v := .int (nI 0)) (ty := .int) (C := RX5) (T := TX5) (N := 19) hx hb hz hinX5 tyX5 tyX5_ok nmX5 hown hK hP hD hS 0 rfl rfl 0 (by decide) (hz _ zw_478) (fun _ h9 => h9) rfl (by decide +kernel) rfl rfl (Nat.le_of_ble_eq_true rfl) dX5_conflicts_2 (fun H locs hP hD hS => ?_)
  have hP : va_P (dC, dI) vwCl (([(am 0, .inr (5, [.int (nI 0), .ref (am 1), .ref (am 2), .ref (am 3), .int st, .ref (am 4), .ref (am 5), .ref (am 6), .ref (am 7), .ref (am 8), .ref (am 9), .ref (am 10), .int en, .int cf, .ref (am 11), .ref (am 12), .ref (am 13), .ref (am 14), .ref (am 15)]))] : va_W) ++ ([] : va_W)) H := hP
  have hD : va_D A (([(am 0, .inr (5, [.int (nI 0), .ref (am 1), .ref (am 2), .ref (am 3), .int st, .ref (am 4), .ref (am 5), .ref (am 6), .ref (am 7), .ref (am 8), .ref (am 9), .ref (am 10), .int en, .int cf, .ref (am 11), .ref (am 12), .ref (am 13), .ref (am 14), .ref (am 15)]))] : va_W) ++ ([] : va_W)) := hD
  refine lv_aload_n hx hb dX5_conflicts_5 rfl (lv_at hl 0 rfl) ?_
  refine va_get (D := (dC, dI)) (ci := 5) (v := .int cf) (C := RX5) (T := TX5) (N := 19) hx hb hz hinX5 hown hK hP 0 rfl rfl 13 (by decide) (hz _ zw_491) (fun _ h9 => h9) rfl dX5_conflicts_6 ?_
  exact hret H locs _ ([(am 0, .inr (5, [.int (nI 0), .ref (am 1), .ref (am 2), .ref (am 3), .int st, .ref (am 4), .ref (am 5), .ref (am 6), .ref (am 7), .ref (am 8), .ref (am 9), .ref (am 10), .int en, .int cf, .ref (am 11), .ref (am 12), .ref (am 13), .ref (am 14), .ref (am 15)]))] : va_W) _ ls hP hD hS dX5_conflicts_9 ⟨rfl, rfl⟩

abbrev rm_X5_step : Room := { frames := 0, cells := 0, slots := 0, locals := 0 }
set_option maxHeartbeats 4000000 in
set_option maxRecDepth 100000 in
theorem c_M_step (l : Launch) (dC : Nat → ClassId) (dI : Nat → Nat → Nat) (cI cS cB cZ : ClassId) (am : Nat → Nat) (cd st en cf : Int32) (mk mf mg mv : Nat → Int32) (ga : Nat → Nat → Int32) (n : Nat) (hn : n ≤ 240) (hmk : ∀ k, k < n → mk k = ga 1 k) (hmf : ∀ k, k < n → mf k = ga 2 k) (hmg : ∀ k, k < n → mg k = ga 3 k) (hmv : ∀ k, k < n → mv k = ga 4 k) (x y : Int32) : zI l (dC, dI) vwCl (zTm cI cS cB cZ) zNW yX5_step wsX5_step rm_X5_step [.ref (am 0), .int x, .int y] ([(am 0, .inr (5, [.int cd, .ref (am 1), .ref (am 2), .ref (am 3), .int (nI n), .ref (am 4), .ref (am 5), .ref (am 6), .ref (am 7), .ref (am 8), .ref (am 9), .ref (am 10), .int en, .int cf, .ref (am 11), .ref (am 12), .ref (am 13), .ref (am 14), .ref (am 15)])), (am 4, .inl (cB, 240, .inl mk)), (am 5, .inl (cB, 240, .inl mf)), (am 6, .inl (cB, 240, .inl mg)), (am 7, .inl (cI, 240, .inl mv))] : va_W) (fun z w => ((∃ k j, k < n ∧ x = nI k ∧ j < 4 ∧ y = nI j ∧ z = ga (1 + j) k) ∧ w = ([(am 0, .inr (5, [.int (nI 0), .ref (am 1), .ref (am 2), .ref (am 3), .int (nI n), .ref (am 4), .ref (am 5), .ref (am 6), .ref (am 7), .ref (am 8), .ref (am 9), .ref (am 10), .int en, .int cf, .ref (am 11), .ref (am 12), .ref (am 13), .ref (am 14), .ref (am 15)])), (am 4, .inl (cB, 240, .inl mk)), (am 5, .inl (cB, 240, .inl mf)), (am 6, .inl (cB, 240, .inl mg)), (am 7, .inl (cI, 240, .inl mv))] : va_W)) ∨ (¬ zAt x n ∧ w = ([(am 0, .inr (5, [.int (nI 1), .ref (am 1), .ref (am 2), .ref (am 3), .int (nI n), .ref (am 4), .ref (am 5), .ref (am 6), .ref (am 7), .ref (am 8), .ref (am 9), .ref (am 10), .int en, .int cf, .ref (am 11), .ref (am 12), .ref (am 13), .ref (am 14), .ref (am 15)])), (am 4, .inl (cB, 240, .inl mk)), (am 5, .inl (cB, 240, .inl mf)), (am 6, .inl (cB, 240, .inl mg)), (am 7, .inl (cI, 240, .inl mv))] : va_W)) ∨ (zAt x n ∧ (y.toInt < 0 ∨ 3 < y.toInt) ∧ w = ([(am 0, .inr (5, [.int (nI 2), .ref (am 1), .ref (am 2), .ref (am 3), .int (nI n), .ref (am 4), .ref (am 5), .ref (am 6), .ref (am 7), .ref (am 8), .ref (am 9), .ref (am 10), .int en, .int cf, .ref (am 11), .ref (am 12), .ref (am 13), .ref (am 14), .ref (am 15)])), (am 4, .inl (cB, 240, .inl mk)), (am 5, .inl (cB, 240, .inl mf)), (am 6, .inl (cB, 240, .inl mg)), (am 7, .inl (cI, 240, .inl mv))] : va_W))) := by
  refine z_ofI (cc := cX5_step) (maxL := 3) (Or.inl rfl) (by decide) rfl (Nat.le_of_ble_eq_true rfl) ?_
  intro p e s m args below meth c A Q ls hI hret
  obtain ⟨hx, hb, hml, hown, hts, hnm, hA, hK, hN, hP, hD, hS, hl⟩ := hI
  have hown : s.vm.findClass RX5 = some m.cls := hown
  have hl : lv_has ls 3 [(0, .ref (am 0)), (1, .int x), (2, .int y)] := hl
  have hP : va_P (dC, dI) vwCl (([(am 0, .inr (5, [.int cd, .ref (am 1), .ref (am 2), .ref (am 3), .int (nI n), .ref (am 4), .ref (am 5), .ref (am 6), .ref (am 7), .ref (am 8), .ref (am 9), .ref (am 10), .int en, .int cf, .ref (am 11), .ref (am 12), .ref (am 13), .ref (am 14), .ref (am 15)])), (am 4, .inl (cB, 240, .inl mk)), (am 5, .inl (cB, 240, .inl mf)), (am 6, .inl (cB, 240, .inl mg)), (am 7, .inl (cI, 240, .inl mv))] : va_W) ++ ([] : va_W)) s.heap := hP
  have hD : va_D A (([(am 0, .inr (5, [.int cd, .ref (am 1), .ref (am 2), .ref (am 3), .int (nI n), .ref (am 4), .ref (am 5), .ref (am 6), .ref (am 7), .ref (am 8), .ref (am 9), .ref (am 10), .int en, .int cf, .ref (am 11), .ref (am 12), .ref (am 13), .ref (am 14), .ref (am 15)])), (am 4, .inl (cB, 240, .inl mk)), (am 5, .inl (cB, 240, .inl mf)), (am 6, .inl (cB, 240, .inl mg)), (am 7, .inl (cI, 240, .inl mv))] : va_W) ++ ([] : va_W)) := hD
  have hz : ∀ w ∈ zW, w.before args s = true := fun w h => hts w (List.mem_cons_of_mem _ h)
  refine lv_aload_n hx hb dX5_step_0 rfl (lv_at hl 0 rfl) ?_
  refine lv_iload_n hx hb dX5_step_1 rfl (lv_at hl 1 rfl) ?_
  refine lv_if_lt (tgt := 13) hx hb dX5_step_2 (by decide) (fun c1 => ?_) (fun c1 => ?_)
  · refine lv_iconst (v := nI 1) hx hb dX5_step_13 (by decide) ?_
    refine lv_goto (tgt := 31) hx hb dX5_step_14 (by decide) ?_
    refine va_put (D := (dC, dI)) (ci := 5) (v := .int (nI 1)) (ty := .int) (C := RX5) (T := TX5) (N := 19) hx hb hz hinX5 tyX5 tyX5_ok nmX5 hown hK hP hD hS 0 rfl rfl 0 (by decide) (hz _ zw_478) (fun _ h9 => h9) rfl (by decide +kernel) rfl rfl (Nat.le_of_ble_eq_true rfl) dX5_step_31 (fun H locs hP hD hS => ?_)
    have hP : va_P (dC, dI) vwCl (([(am 0, .inr (5, [.int (nI 1), .ref (am 1), .ref (am 2), .ref (am 3), .int (nI n), .ref (am 4), .ref (am 5), .ref (am 6), .ref (am 7), .ref (am 8), .ref (am 9), .ref (am 10), .int en, .int cf, .ref (am 11), .ref (am 12), .ref (am 13), .ref (am 14), .ref (am 15)])), (am 4, .inl (cB, 240, .inl mk)), (am 5, .inl (cB, 240, .inl mf)), (am 6, .inl (cB, 240, .inl mg)), (am 7, .inl (cI, 240, .inl mv))] : va_W) ++ ([] : va_W)) H := hP
    have hD : va_D A (([(am 0, .inr (5, [.int (nI 1), .ref (am 1), .ref (am 2), .ref (am 3), .int (nI n), .ref (am 4), .ref (am 5), .ref (am 6), .ref (am 7), .ref (am 8), .ref (am 9), .ref (am 10), .int en, .int cf, .ref (am 11), .ref (am 12), .ref (am 13), .ref (am 14), .ref (am 15)])), (am 4, .inl (cB, 240, .inl mk)), (am 5, .inl (cB, 240, .inl mf)), (am 6, .inl (cB, 240, .inl mg)), (am 7, .inl (cI, 240, .inl mv))] : va_W) ++ ([] : va_W)) := hD
    refine lv_aload_n hx hb dX5_step_34 rfl (lv_at hl 0 rfl) ?_
    refine va_get (D := (dC, dI)) (ci := 5) (v := .int (nI 1)) (C := RX5) (T := TX5) (N := 19) hx hb hz hinX5 hown hK hP 0 rfl rfl 0 (by decide) (hz _ zw_478) (fun _ h9 => h9) rfl dX5_step_35 ?_
    refine lv_if_le (tgt := 43) hx hb dX5_step_38 (by decide) (fun ck1 => ?_) (fun ck1 => ?_)
    · exact absurd ck1 (by decide)
    · refine lv_iconst (v := nI 0) hx hb dX5_step_41 (by decide) ?_
      exact hret H locs _ ([(am 0, .inr (5, [.int (nI 1), .ref (am 1), .ref (am 2), .ref (am 3), .int (nI n), .ref (am 4), .ref (am 5), .ref (am 6), .ref (am 7), .ref (am 8), .ref (am 9), .ref (am 10), .int en, .int cf, .ref (am 11), .ref (am 12), .ref (am 13), .ref (am 14), .ref (am 15)])), (am 4, .inl (cB, 240, .inl mk)), (am 5, .inl (cB, 240, .inl mf)), (am 6, .inl (cB, 240, .inl mg)), (am 7, .inl (cI, 240, .inl mv))] : va_W) _ ls hP hD hS dX5_step_42 (Or.inr (Or.inl ⟨zAt_neg (by omega) c1, rfl⟩))
  · refine lv_iload_n hx hb dX5_step_5 rfl (lv_at hl 1 rfl) ?_
    refine lv_aload_n hx hb dX5_step_6 rfl (lv_at hl 0 rfl) ?_
    refine va_get (D := (dC, dI)) (ci := 5) (v := .int (nI n)) (C := RX5) (T := TX5) (N := 19) hx hb hz hinX5 hown hK hP 0 rfl rfl 4 (by decide) (hz _ zw_482) (fun _ h9 => h9) rfl dX5_step_7 ?_
    refine lv_icmp_lt (tgt := 17) hx hb dX5_step_10 (by decide) (fun c2 => ?_) (fun c2 => ?_)
    · have hat := zAt_lt (by omega) c1 c2
      obtain ⟨k, hk, rfl⟩ := id hat
      refine lv_iload_n hx hb dX5_step_17 rfl (lv_at hl 2 rfl) ?_
      refine lv_if_lt (tgt := 26) hx hb dX5_step_18 (by decide) (fun c3 => ?_) (fun c3 => ?_)
      · refine lv_iconst (v := nI 2) hx hb dX5_step_26 (by decide) ?_
        refine lv_goto (tgt := 31) hx hb dX5_step_27 (by decide) ?_
        refine va_put (D := (dC, dI)) (ci := 5) (v := .int (nI 2)) (ty := .int) (C := RX5) (T := TX5) (N := 19) hx hb hz hinX5 tyX5 tyX5_ok nmX5 hown hK hP hD hS 0 rfl rfl 0 (by decide) (hz _ zw_478) (fun _ h9 => h9) rfl (by decide +kernel) rfl rfl (Nat.le_of_ble_eq_true rfl) dX5_step_31 (fun H locs hP hD hS => ?_)
        have hP : va_P (dC, dI) vwCl (([(am 0, .inr (5, [.int (nI 2), .ref (am 1), .ref (am 2), .ref (am 3), .int (nI n), .ref (am 4), .ref (am 5), .ref (am 6), .ref (am 7), .ref (am 8), .ref (am 9), .ref (am 10), .int en, .int cf, .ref (am 11), .ref (am 12), .ref (am 13), .ref (am 14), .ref (am 15)])), (am 4, .inl (cB, 240, .inl mk)), (am 5, .inl (cB, 240, .inl mf)), (am 6, .inl (cB, 240, .inl mg)), (am 7, .inl (cI, 240, .inl mv))] : va_W) ++ ([] : va_W)) H := hP
        have hD : va_D A (([(am 0, .inr (5, [.int (nI 2), .ref (am 1), .ref (am 2), .ref (am 3), .int (nI n), .ref (am 4), .ref (am 5), .ref (am 6), .ref (am 7), .ref (am 8), .ref (am 9), .ref (am 10), .int en, .int cf, .ref (am 11), .ref (am 12), .ref (am 13), .ref (am 14), .ref (am 15)])), (am 4, .inl (cB, 240, .inl mk)), (am 5, .inl (cB, 240, .inl mf)), (am 6, .inl (cB, 240, .inl mg)), (am 7, .inl (cI, 240, .inl mv))] : va_W) ++ ([] : va_W)) := hD
        refine lv_aload_n hx hb dX5_step_34 rfl (lv_at hl 0 rfl) ?_
        refine va_get (D := (dC, dI)) (ci := 5) (v := .int (nI 2)) (C := RX5) (T := TX5) (N := 19) hx hb hz hinX5 hown hK hP 0 rfl rfl 0 (by decide) (hz _ zw_478) (fun _ h9 => h9) rfl dX5_step_35 ?_
        refine lv_if_le (tgt := 43) hx hb dX5_step_38 (by decide) (fun ck2 => ?_) (fun ck2 => ?_)
        · exact absurd ck2 (by decide)
        · refine lv_iconst (v := nI 0) hx hb dX5_step_41 (by decide) ?_
          exact hret H locs _ ([(am 0, .inr (5, [.int (nI 2), .ref (am 1), .ref (am 2), .ref (am 3), .int (nI n), .ref (am 4), .ref (am 5), .ref (am 6), .ref (am 7), .ref (am 8), .ref (am 9), .ref (am 10), .int en, .int cf, .ref (am 11), .ref (am 12), .ref (am 13), .ref (am 14), .ref (am 15)])), (am 4, .inl (cB, 240, .inl mk)), (am 5, .inl (cB, 240, .inl mf)), (am 6, .inl (cB, 240, .inl mg)), (am 7, .inl (cI, 240, .inl mv))] : va_W) _ ls hP hD hS dX5_step_42 (Or.inr (Or.inr ⟨hat, sw_lo c3, rfl⟩))
      · refine lv_iload_n hx hb dX5_step_21 rfl (lv_at hl 2 rfl) ?_
        refine lv_iconst (v := nI 3) hx hb dX5_step_22 (by decide) ?_
        refine lv_icmp_le (tgt := 30) hx hb dX5_step_23 (by decide) (fun c4 => ?_) (fun c4 => ?_)
        · refine lv_iconst (v := nI 0) hx hb dX5_step_30 (by decide) ?_
          refine va_put (D := (dC, dI)) (ci := 5) (v := .int (nI 0)) (ty := .int) (C := RX5) (T := TX5) (N := 19) hx hb hz hinX5 tyX5 tyX5_ok nmX5 hown hK hP hD hS 0 rfl rfl 0 (by decide) (hz _ zw_478) (fun _ h9 => h9) rfl (by decide +kernel) rfl rfl (Nat.le_of_ble_eq_true rfl) dX5_step_31 (fun H locs hP hD hS => ?_)
          have hP : va_P (dC, dI) vwCl (([(am 0, .inr (5, [.int (nI 0), .ref (am 1), .ref (am 2), .ref (am 3), .int (nI n), .ref (am 4), .ref (am 5), .ref (am 6), .ref (am 7), .ref (am 8), .ref (am 9), .ref (am 10), .int en, .int cf, .ref (am 11), .ref (am 12), .ref (am 13), .ref (am 14), .ref (am 15)])), (am 4, .inl (cB, 240, .inl mk)), (am 5, .inl (cB, 240, .inl mf)), (am 6, .inl (cB, 240, .inl mg)), (am 7, .inl (cI, 240, .inl mv))] : va_W) ++ ([] : va_W)) H := hP
          have hD : va_D A (([(am 0, .inr (5, [.int (nI 0), .ref (am 1), .ref (am 2), .ref (am 3), .int (nI n), .ref (am 4), .ref (am 5), .ref (am 6), .ref (am 7), .ref (am 8), .ref (am 9), .ref (am 10), .int en, .int cf, .ref (am 11), .ref (am 12), .ref (am 13), .ref (am 14), .ref (am 15)])), (am 4, .inl (cB, 240, .inl mk)), (am 5, .inl (cB, 240, .inl mf)), (am 6, .inl (cB, 240, .inl mg)), (am 7, .inl (cI, 240, .inl mv))] : va_W) ++ ([] : va_W)) := hD
          refine lv_aload_n hx hb dX5_step_34 rfl (lv_at hl 0 rfl) ?_
          refine va_get (D := (dC, dI)) (ci := 5) (v := .int (nI 0)) (C := RX5) (T := TX5) (N := 19) hx hb hz hinX5 hown hK hP 0 rfl rfl 0 (by decide) (hz _ zw_478) (fun _ h9 => h9) rfl dX5_step_35 ?_
          rcases sw_of c3 c4 with rfl | rfl | rfl | rfl
          · refine lv_if_le (tgt := 43) hx hb dX5_step_38 (by decide) (fun ck3 => ?_) (fun ck3 => ?_)
            · refine lv_iload_n hx hb dX5_step_43 rfl (lv_at hl 2 rfl) ?_
              refine lv_if_ne (tgt := 56) hx hb dX5_step_44 (by decide) (fun ck4 => ?_) (fun ck4 => ?_)
              · exact absurd ck4 (by decide)
              · refine lv_aload_n hx hb dX5_step_47 rfl (lv_at hl 0 rfl) ?_
                refine va_get (D := (dC, dI)) (ci := 5) (v := .ref (am 4)) (C := RX5) (T := TX5) (N := 19) hx hb hz hinX5 hown hK hP 0 rfl rfl 5 (by decide) (hz _ zw_483) (fun _ h9 => h9) rfl dX5_step_48 ?_
                refine lv_iload_n hx hb dX5_step_51 rfl (lv_at hl 1 rfl) ?_
                refine z_bald (v := ga 1 k) hx hb hK hP 1 2 rfl rfl (k := k) (by omega) (by omega) (hmk k hk) dX5_step_52 ?_
                refine lv_goto (tgt := 90) hx hb dX5_step_53 (by decide) ?_
                exact hret H locs _ ([(am 0, .inr (5, [.int (nI 0), .ref (am 1), .ref (am 2), .ref (am 3), .int (nI n), .ref (am 4), .ref (am 5), .ref (am 6), .ref (am 7), .ref (am 8), .ref (am 9), .ref (am 10), .int en, .int cf, .ref (am 11), .ref (am 12), .ref (am 13), .ref (am 14), .ref (am 15)])), (am 4, .inl (cB, 240, .inl mk)), (am 5, .inl (cB, 240, .inl mf)), (am 6, .inl (cB, 240, .inl mg)), (am 7, .inl (cI, 240, .inl mv))] : va_W) _ ls hP hD hS dX5_step_90 (Or.inl ⟨⟨k, 0, hk, rfl, by decide, rfl, rfl⟩, rfl⟩)
            · exact absurd ck3 (by decide)
          · refine lv_if_le (tgt := 43) hx hb dX5_step_38 (by decide) (fun ck5 => ?_) (fun ck5 => ?_)
            · refine lv_iload_n hx hb dX5_step_43 rfl (lv_at hl 2 rfl) ?_
              refine lv_if_ne (tgt := 56) hx hb dX5_step_44 (by decide) (fun ck6 => ?_) (fun ck6 => ?_)
              · refine lv_iload_n hx hb dX5_step_56 rfl (lv_at hl 2 rfl) ?_
                refine lv_iconst (v := nI 1) hx hb dX5_step_57 (by decide) ?_
                refine lv_icmp_ne (tgt := 70) hx hb dX5_step_58 (by decide) (fun ck7 => ?_) (fun ck7 => ?_)
                · exact absurd ck7 (by decide)
                · refine lv_aload_n hx hb dX5_step_61 rfl (lv_at hl 0 rfl) ?_
                  refine va_get (D := (dC, dI)) (ci := 5) (v := .ref (am 5)) (C := RX5) (T := TX5) (N := 19) hx hb hz hinX5 hown hK hP 0 rfl rfl 6 (by decide) (hz _ zw_484) (fun _ h9 => h9) rfl dX5_step_62 ?_
                  refine lv_iload_n hx hb dX5_step_65 rfl (lv_at hl 1 rfl) ?_
                  refine z_bald (v := ga 2 k) hx hb hK hP 2 2 rfl rfl (k := k) (by omega) (by omega) (hmf k hk) dX5_step_66 ?_
                  refine lv_goto (tgt := 90) hx hb dX5_step_67 (by decide) ?_
                  exact hret H locs _ ([(am 0, .inr (5, [.int (nI 0), .ref (am 1), .ref (am 2), .ref (am 3), .int (nI n), .ref (am 4), .ref (am 5), .ref (am 6), .ref (am 7), .ref (am 8), .ref (am 9), .ref (am 10), .int en, .int cf, .ref (am 11), .ref (am 12), .ref (am 13), .ref (am 14), .ref (am 15)])), (am 4, .inl (cB, 240, .inl mk)), (am 5, .inl (cB, 240, .inl mf)), (am 6, .inl (cB, 240, .inl mg)), (am 7, .inl (cI, 240, .inl mv))] : va_W) _ ls hP hD hS dX5_step_90 (Or.inl ⟨⟨k, 1, hk, rfl, by decide, rfl, rfl⟩, rfl⟩)
              · exact absurd ck6 (by decide)
            · exact absurd ck5 (by decide)
          · refine lv_if_le (tgt := 43) hx hb dX5_step_38 (by decide) (fun ck8 => ?_) (fun ck8 => ?_)
            · refine lv_iload_n hx hb dX5_step_43 rfl (lv_at hl 2 rfl) ?_
              refine lv_if_ne (tgt := 56) hx hb dX5_step_44 (by decide) (fun ck9 => ?_) (fun ck9 => ?_)
              · refine lv_iload_n hx hb dX5_step_56 rfl (lv_at hl 2 rfl) ?_
                refine lv_iconst (v := nI 1) hx hb dX5_step_57 (by decide) ?_
                refine lv_icmp_ne (tgt := 70) hx hb dX5_step_58 (by decide) (fun ck10 => ?_) (fun ck10 => ?_)
                · refine lv_iload_n hx hb dX5_step_70 rfl (lv_at hl 2 rfl) ?_
                  refine lv_iconst (v := nI 2) hx hb dX5_step_71 (by decide) ?_
                  refine lv_icmp_ne (tgt := 84) hx hb dX5_step_72 (by decide) (fun ck11 => ?_) (fun ck11 => ?_)
                  · exact absurd ck11 (by decide)
                  · refine lv_aload_n hx hb dX5_step_75 rfl (lv_at hl 0 rfl) ?_
                    refine va_get (D := (dC, dI)) (ci := 5) (v := .ref (am 6)) (C := RX5) (T := TX5) (N := 19) hx hb hz hinX5 hown hK hP 0 rfl rfl 7 (by decide) (hz _ zw_485) (fun _ h9 => h9) rfl dX5_step_76 ?_
                    refine lv_iload_n hx hb dX5_step_79 rfl (lv_at hl 1 rfl) ?_
                    refine z_bald (v := ga 3 k) hx hb hK hP 3 2 rfl rfl (k := k) (by omega) (by omega) (hmg k hk) dX5_step_80 ?_
                    refine lv_goto (tgt := 90) hx hb dX5_step_81 (by decide) ?_
                    exact hret H locs _ ([(am 0, .inr (5, [.int (nI 0), .ref (am 1), .ref (am 2), .ref (am 3), .int (nI n), .ref (am 4), .ref (am 5), .ref (am 6), .ref (am 7), .ref (am 8), .ref (am 9), .ref (am 10), .int en, .int cf, .ref (am 11), .ref (am 12), .ref (am 13), .ref (am 14), .ref (am 15)])), (am 4, .inl (cB, 240, .inl mk)), (am 5, .inl (cB, 240, .inl mf)), (am 6, .inl (cB, 240, .inl mg)), (am 7, .inl (cI, 240, .inl mv))] : va_W) _ ls hP hD hS dX5_step_90 (Or.inl ⟨⟨k, 2, hk, rfl, by decide, rfl, rfl⟩, rfl⟩)
                · exact absurd ck10 (by decide)
              · exact absurd ck9 (by decide)
            · exact absurd ck8 (by decide)
          · refine lv_if_le (tgt := 43) hx hb dX5_step_38 (by decide) (fun ck12 => ?_) (fun ck12 => ?_)
            · refine lv_iload_n hx hb dX5_step_43 rfl (lv_at hl 2 rfl) ?_
              refine lv_if_ne (tgt := 56) hx hb dX5_step_44 (by decide) (fun ck13 => ?_) (fun ck13 => ?_)
              · refine lv_iload_n hx hb dX5_step_56 rfl (lv_at hl 2 rfl) ?_
                refine lv_iconst (v := nI 1) hx hb dX5_step_57 (by decide) ?_
                refine lv_icmp_ne (tgt := 70) hx hb dX5_step_58 (by decide) (fun ck14 => ?_) (fun ck14 => ?_)
                · refine lv_iload_n hx hb dX5_step_70 rfl (lv_at hl 2 rfl) ?_
                  refine lv_iconst (v := nI 2) hx hb dX5_step_71 (by decide) ?_
                  refine lv_icmp_ne (tgt := 84) hx hb dX5_step_72 (by decide) (fun ck15 => ?_) (fun ck15 => ?_)
                  · refine lv_aload_n hx hb dX5_step_84 rfl (lv_at hl 0 rfl) ?_
                    refine va_get (D := (dC, dI)) (ci := 5) (v := .ref (am 7)) (C := RX5) (T := TX5) (N := 19) hx hb hz hinX5 hown hK hP 0 rfl rfl 8 (by decide) (hz _ zw_486) (fun _ h9 => h9) rfl dX5_step_85 ?_
                    refine lv_iload_n hx hb dX5_step_88 rfl (lv_at hl 1 rfl) ?_
                    refine z_iald (v := ga 4 k) hx hb hK hP 4 0 rfl rfl (k := k) (by omega) (by omega) (hmv k hk) dX5_step_89 ?_
                    exact hret H locs _ ([(am 0, .inr (5, [.int (nI 0), .ref (am 1), .ref (am 2), .ref (am 3), .int (nI n), .ref (am 4), .ref (am 5), .ref (am 6), .ref (am 7), .ref (am 8), .ref (am 9), .ref (am 10), .int en, .int cf, .ref (am 11), .ref (am 12), .ref (am 13), .ref (am 14), .ref (am 15)])), (am 4, .inl (cB, 240, .inl mk)), (am 5, .inl (cB, 240, .inl mf)), (am 6, .inl (cB, 240, .inl mg)), (am 7, .inl (cI, 240, .inl mv))] : va_W) _ ls hP hD hS dX5_step_90 (Or.inl ⟨⟨k, 3, hk, rfl, by decide, rfl, rfl⟩, rfl⟩)
                  · exact absurd ck15 (by decide)
                · exact absurd ck14 (by decide)
              · exact absurd ck13 (by decide)
            · exact absurd ck12 (by decide)
        · refine lv_iconst (v := nI 2) hx hb dX5_step_26 (by decide) ?_
          refine lv_goto (tgt := 31) hx hb dX5_step_27 (by decide) ?_
          refine va_put (D := (dC, dI)) (ci := 5) (v := .int (nI 2)) (ty := .int) (C := RX5) (T := TX5) (N := 19) hx hb hz hinX5 tyX5 tyX5_ok nmX5 hown hK hP hD hS 0 rfl rfl 0 (by decide) (hz _ zw_478) (fun _ h9 => h9) rfl (by decide +kernel) rfl rfl (Nat.le_of_ble_eq_true rfl) dX5_step_31 (fun H locs hP hD hS => ?_)
          have hP : va_P (dC, dI) vwCl (([(am 0, .inr (5, [.int (nI 2), .ref (am 1), .ref (am 2), .ref (am 3), .int (nI n), .ref (am 4), .ref (am 5), .ref (am 6), .ref (am 7), .ref (am 8), .ref (am 9), .ref (am 10), .int en, .int cf, .ref (am 11), .ref (am 12), .ref (am 13), .ref (am 14), .ref (am 15)])), (am 4, .inl (cB, 240, .inl mk)), (am 5, .inl (cB, 240, .inl mf)), (am 6, .inl (cB, 240, .inl mg)), (am 7, .inl (cI, 240, .inl mv))] : va_W) ++ ([] : va_W)) H := hP
          have hD : va_D A (([(am 0, .inr (5, [.int (nI 2), .ref (am 1), .ref (am 2), .ref (am 3), .int (nI n), .ref (am 4), .ref (am 5), .ref (am 6), .ref (am 7), .ref (am 8), .ref (am 9), .ref (am 10), .int en, .int cf, .ref (am 11), .ref (am 12), .ref (am 13), .ref (am 14), .ref (am 15)])), (am 4, .inl (cB, 240, .inl mk)), (am 5, .inl (cB, 240, .inl mf)), (am 6, .inl (cB, 240, .inl mg)), (am 7, .inl (cI, 240, .inl mv))] : va_W) ++ ([] : va_W)) := hD
          refine lv_aload_n hx hb dX5_step_34 rfl (lv_at hl 0 rfl) ?_
          refine va_get (D := (dC, dI)) (ci := 5) (v := .int (nI 2)) (C := RX5) (T := TX5) (N := 19) hx hb hz hinX5 hown hK hP 0 rfl rfl 0 (by decide) (hz _ zw_478) (fun _ h9 => h9) rfl dX5_step_35 ?_
          refine lv_if_le (tgt := 43) hx hb dX5_step_38 (by decide) (fun ck16 => ?_) (fun ck16 => ?_)
          · exact absurd ck16 (by decide)
          · refine lv_iconst (v := nI 0) hx hb dX5_step_41 (by decide) ?_
            exact hret H locs _ ([(am 0, .inr (5, [.int (nI 2), .ref (am 1), .ref (am 2), .ref (am 3), .int (nI n), .ref (am 4), .ref (am 5), .ref (am 6), .ref (am 7), .ref (am 8), .ref (am 9), .ref (am 10), .int en, .int cf, .ref (am 11), .ref (am 12), .ref (am 13), .ref (am 14), .ref (am 15)])), (am 4, .inl (cB, 240, .inl mk)), (am 5, .inl (cB, 240, .inl mf)), (am 6, .inl (cB, 240, .inl mg)), (am 7, .inl (cI, 240, .inl mv))] : va_W) _ ls hP hD hS dX5_step_42 (Or.inr (Or.inr ⟨hat, sw_hi c4, rfl⟩))
    · refine lv_iconst (v := nI 1) hx hb dX5_step_13 (by decide) ?_
      refine lv_goto (tgt := 31) hx hb dX5_step_14 (by decide) ?_
      refine va_put (D := (dC, dI)) (ci := 5) (v := .int (nI 1)) (ty := .int) (C := RX5) (T := TX5) (N := 19) hx hb hz hinX5 tyX5 tyX5_ok nmX5 hown hK hP hD hS 0 rfl rfl 0 (by decide) (hz _ zw_478) (fun _ h9 => h9) rfl (by decide +kernel) rfl rfl (Nat.le_of_ble_eq_true rfl) dX5_step_31 (fun H locs hP hD hS => ?_)
      have hP : va_P (dC, dI) vwCl (([(am 0, .inr (5, [.int (nI 1), .ref (am 1), .ref (am 2), .ref (am 3), .int (nI n), .ref (am 4), .ref (am 5), .ref (am 6), .ref (am 7), .ref (am 8), .ref (am 9), .ref (am 10), .int en, .int cf, .ref (am 11), .ref (am 12), .ref (am 13), .ref (am 14), .ref (am 15)])), (am 4, .inl (cB, 240, .inl mk)), (am 5, .inl (cB, 240, .inl mf)), (am 6, .inl (cB, 240, .inl mg)), (am 7, .inl (cI, 240, .inl mv))] : va_W) ++ ([] : va_W)) H := hP
      have hD : va_D A (([(am 0, .inr (5, [.int (nI 1), .ref (am 1), .ref (am 2), .ref (am 3), .int (nI n), .ref (am 4), .ref (am 5), .ref (am 6), .ref (am 7), .ref (am 8), .ref (am 9), .ref (am 10), .int en, .int cf, .ref (am 11), .ref (am 12), .ref (am 13), .ref (am 14), .ref (am 15)])), (am 4, .inl (cB, 240, .inl mk)), (am 5, .inl (cB, 240, .inl mf)), (am 6, .inl (cB, 240, .inl mg)), (am 7, .inl (cI, 240, .inl mv))] : va_W) ++ ([] : va_W)) := hD
      refine lv_aload_n hx hb dX5_step_34 rfl (lv_at hl 0 rfl) ?_
      refine va_get (D := (dC, dI)) (ci := 5) (v := .int (nI 1)) (C := RX5) (T := TX5) (N := 19) hx hb hz hinX5 hown hK hP 0 rfl rfl 0 (by decide) (hz _ zw_478) (fun _ h9 => h9) rfl dX5_step_35 ?_
      refine lv_if_le (tgt := 43) hx hb dX5_step_38 (by decide) (fun ck17 => ?_) (fun ck17 => ?_)
      · exact absurd ck17 (by decide)
      · refine lv_iconst (v := nI 0) hx hb dX5_step_41 (by decide) ?_
        exact hret H locs _ ([(am 0, .inr (5, [.int (nI 1), .ref (am 1), .ref (am 2), .ref (am 3), .int (nI n), .ref (am 4), .ref (am 5), .ref (am 6), .ref (am 7), .ref (am 8), .ref (am 9), .ref (am 10), .int en, .int cf, .ref (am 11), .ref (am 12), .ref (am 13), .ref (am 14), .ref (am 15)])), (am 4, .inl (cB, 240, .inl mk)), (am 5, .inl (cB, 240, .inl mf)), (am 6, .inl (cB, 240, .inl mg)), (am 7, .inl (cI, 240, .inl mv))] : va_W) _ ls hP hD hS dX5_step_42 (Or.inr (Or.inl ⟨zAt_ge (by omega) c2, rfl⟩))

set_option maxHeartbeats 4000000 in
set_option maxRecDepth 100000 in
theorem c_M_step0 (l : Launch) (dC : Nat → ClassId) (dI : Nat → Nat → Nat) (cI cS cB cZ : ClassId) (am : Nat → Nat) (cd st en cf : Int32) (mk mf mg mv : Nat → Int32) (x y : Int32) : zI l (dC, dI) vwCl (zTm cI cS cB cZ) zNW yX5_step wsX5_step rm_X5_step [.ref (am 0), .int x, .int y] ([(am 0, .inr (5, [.int cd, .ref (am 1), .ref (am 2), .ref (am 3), .int (-1), .ref (am 4), .ref (am 5), .ref (am 6), .ref (am 7), .ref (am 8), .ref (am 9), .ref (am 10), .int en, .int cf, .ref (am 11), .ref (am 12), .ref (am 13), .ref (am 14), .ref (am 15)])), (am 4, .inl (cB, 240, .inl mk)), (am 5, .inl (cB, 240, .inl mf)), (am 6, .inl (cB, 240, .inl mg)), (am 7, .inl (cI, 240, .inl mv))] : va_W) (fun z w => w = ([(am 0, .inr (5, [.int (nI 1), .ref (am 1), .ref (am 2), .ref (am 3), .int (-1), .ref (am 4), .ref (am 5), .ref (am 6), .ref (am 7), .ref (am 8), .ref (am 9), .ref (am 10), .int en, .int cf, .ref (am 11), .ref (am 12), .ref (am 13), .ref (am 14), .ref (am 15)])), (am 4, .inl (cB, 240, .inl mk)), (am 5, .inl (cB, 240, .inl mf)), (am 6, .inl (cB, 240, .inl mg)), (am 7, .inl (cI, 240, .inl mv))] : va_W)) := by
  refine z_ofI (cc := cX5_step) (maxL := 3) (Or.inl rfl) (by decide) rfl (Nat.le_of_ble_eq_true rfl) ?_
  intro p e s m args below meth c A Q ls hI hret
  obtain ⟨hx, hb, hml, hown, hts, hnm, hA, hK, hN, hP, hD, hS, hl⟩ := hI
  have hown : s.vm.findClass RX5 = some m.cls := hown
  have hl : lv_has ls 3 [(0, .ref (am 0)), (1, .int x), (2, .int y)] := hl
  have hP : va_P (dC, dI) vwCl (([(am 0, .inr (5, [.int cd, .ref (am 1), .ref (am 2), .ref (am 3), .int (-1), .ref (am 4), .ref (am 5), .ref (am 6), .ref (am 7), .ref (am 8), .ref (am 9), .ref (am 10), .int en, .int cf, .ref (am 11), .ref (am 12), .ref (am 13), .ref (am 14), .ref (am 15)])), (am 4, .inl (cB, 240, .inl mk)), (am 5, .inl (cB, 240, .inl mf)), (am 6, .inl (cB, 240, .inl mg)), (am 7, .inl (cI, 240, .inl mv))] : va_W) ++ ([] : va_W)) s.heap := hP
  have hD : va_D A (([(am 0, .inr (5, [.int cd, .ref (am 1), .ref (am 2), .ref (am 3), .int (-1), .ref (am 4), .ref (am 5), .ref (am 6), .ref (am 7), .ref (am 8), .ref (am 9), .ref (am 10), .int en, .int cf, .ref (am 11), .ref (am 12), .ref (am 13), .ref (am 14), .ref (am 15)])), (am 4, .inl (cB, 240, .inl mk)), (am 5, .inl (cB, 240, .inl mf)), (am 6, .inl (cB, 240, .inl mg)), (am 7, .inl (cI, 240, .inl mv))] : va_W) ++ ([] : va_W)) := hD
  have hz : ∀ w ∈ zW, w.before args s = true := fun w h => hts w (List.mem_cons_of_mem _ h)
  refine lv_aload_n hx hb dX5_step_0 rfl (lv_at hl 0 rfl) ?_
  refine lv_iload_n hx hb dX5_step_1 rfl (lv_at hl 1 rfl) ?_
  refine lv_if_lt (tgt := 13) hx hb dX5_step_2 (by decide) (fun c1 => ?_) (fun c1 => ?_)
  · refine lv_iconst (v := nI 1) hx hb dX5_step_13 (by decide) ?_
    refine lv_goto (tgt := 31) hx hb dX5_step_14 (by decide) ?_
    refine va_put (D := (dC, dI)) (ci := 5) (v := .int (nI 1)) (ty := .int) (C := RX5) (T := TX5) (N := 19) hx hb hz hinX5 tyX5 tyX5_ok nmX5 hown hK hP hD hS 0 rfl rfl 0 (by decide) (hz _ zw_478) (fun _ h9 => h9) rfl (by decide +kernel) rfl rfl (Nat.le_of_ble_eq_true rfl) dX5_step_31 (fun H locs hP hD hS => ?_)
    have hP : va_P (dC, dI) vwCl (([(am 0, .inr (5, [.int (nI 1), .ref (am 1), .ref (am 2), .ref (am 3), .int (-1), .ref (am 4), .ref (am 5), .ref (am 6), .ref (am 7), .ref (am 8), .ref (am 9), .ref (am 10), .int en, .int cf, .ref (am 11), .ref (am 12), .ref (am 13), .ref (am 14), .ref (am 15)])), (am 4, .inl (cB, 240, .inl mk)), (am 5, .inl (cB, 240, .inl mf)), (am 6, .inl (cB, 240, .inl mg)), (am 7, .inl (cI, 240, .inl mv))] : va_W) ++ ([] : va_W)) H := hP
    have hD : va_D A (([(am 0, .inr (5, [.int (nI 1), .ref (am 1), .ref (am 2), .ref (am 3), .int (-1), .ref (am 4), .ref (am 5), .ref (am 6), .ref (am 7), .ref (am 8), .ref (am 9), .ref (am 10), .int en, .int cf, .ref (am 11), .ref (am 12), .ref (am 13), .ref (am 14), .ref (am 15)])), (am 4, .inl (cB, 240, .inl mk)), (am 5, .inl (cB, 240, .inl mf)), (am 6, .inl (cB, 240, .inl mg)), (am 7, .inl (cI, 240, .inl mv))] : va_W) ++ ([] : va_W)) := hD
    refine lv_aload_n hx hb dX5_step_34 rfl (lv_at hl 0 rfl) ?_
    refine va_get (D := (dC, dI)) (ci := 5) (v := .int (nI 1)) (C := RX5) (T := TX5) (N := 19) hx hb hz hinX5 hown hK hP 0 rfl rfl 0 (by decide) (hz _ zw_478) (fun _ h9 => h9) rfl dX5_step_35 ?_
    refine lv_if_le (tgt := 43) hx hb dX5_step_38 (by decide) (fun ck1 => ?_) (fun ck1 => ?_)
    · exact absurd ck1 (by decide)
    · refine lv_iconst (v := nI 0) hx hb dX5_step_41 (by decide) ?_
      exact hret H locs _ ([(am 0, .inr (5, [.int (nI 1), .ref (am 1), .ref (am 2), .ref (am 3), .int (-1), .ref (am 4), .ref (am 5), .ref (am 6), .ref (am 7), .ref (am 8), .ref (am 9), .ref (am 10), .int en, .int cf, .ref (am 11), .ref (am 12), .ref (am 13), .ref (am 14), .ref (am 15)])), (am 4, .inl (cB, 240, .inl mk)), (am 5, .inl (cB, 240, .inl mf)), (am 6, .inl (cB, 240, .inl mg)), (am 7, .inl (cI, 240, .inl mv))] : va_W) _ ls hP hD hS dX5_step_42 rfl
  · refine lv_iload_n hx hb dX5_step_5 rfl (lv_at hl 1 rfl) ?_
    refine lv_aload_n hx hb dX5_step_6 rfl (lv_at hl 0 rfl) ?_
    refine va_get (D := (dC, dI)) (ci := 5) (v := .int (-1)) (C := RX5) (T := TX5) (N := 19) hx hb hz hinX5 hown hK hP 0 rfl rfl 4 (by decide) (hz _ zw_482) (fun _ h9 => h9) rfl dX5_step_7 ?_
    refine lv_icmp_lt (tgt := 17) hx hb dX5_step_10 (by decide) (fun c2 => ?_) (fun c2 => ?_)
    · exact absurd c2 (z_ltm1 c1)
    · refine lv_iconst (v := nI 1) hx hb dX5_step_13 (by decide) ?_
      refine lv_goto (tgt := 31) hx hb dX5_step_14 (by decide) ?_
      refine va_put (D := (dC, dI)) (ci := 5) (v := .int (nI 1)) (ty := .int) (C := RX5) (T := TX5) (N := 19) hx hb hz hinX5 tyX5 tyX5_ok nmX5 hown hK hP hD hS 0 rfl rfl 0 (by decide) (hz _ zw_478) (fun _ h9 => h9) rfl (by decide +kernel) rfl rfl (Nat.le_of_ble_eq_true rfl) dX5_step_31 (fun H locs hP hD hS => ?_)
      have hP : va_P (dC, dI) vwCl (([(am 0, .inr (5, [.int (nI 1), .ref (am 1), .ref (am 2), .ref (am 3), .int (-1), .ref (am 4), .ref (am 5), .ref (am 6), .ref (am 7), .ref (am 8), .ref (am 9), .ref (am 10), .int en, .int cf, .ref (am 11), .ref (am 12), .ref (am 13), .ref (am 14), .ref (am 15)])), (am 4, .inl (cB, 240, .inl mk)), (am 5, .inl (cB, 240, .inl mf)), (am 6, .inl (cB, 240, .inl mg)), (am 7, .inl (cI, 240, .inl mv))] : va_W) ++ ([] : va_W)) H := hP
      have hD : va_D A (([(am 0, .inr (5, [.int (nI 1), .ref (am 1), .ref (am 2), .ref (am 3), .int (-1), .ref (am 4), .ref (am 5), .ref (am 6), .ref (am 7), .ref (am 8), .ref (am 9), .ref (am 10), .int en, .int cf, .ref (am 11), .ref (am 12), .ref (am 13), .ref (am 14), .ref (am 15)])), (am 4, .inl (cB, 240, .inl mk)), (am 5, .inl (cB, 240, .inl mf)), (am 6, .inl (cB, 240, .inl mg)), (am 7, .inl (cI, 240, .inl mv))] : va_W) ++ ([] : va_W)) := hD
      refine lv_aload_n hx hb dX5_step_34 rfl (lv_at hl 0 rfl) ?_
      refine va_get (D := (dC, dI)) (ci := 5) (v := .int (nI 1)) (C := RX5) (T := TX5) (N := 19) hx hb hz hinX5 hown hK hP 0 rfl rfl 0 (by decide) (hz _ zw_478) (fun _ h9 => h9) rfl dX5_step_35 ?_
      refine lv_if_le (tgt := 43) hx hb dX5_step_38 (by decide) (fun ck2 => ?_) (fun ck2 => ?_)
      · exact absurd ck2 (by decide)
      · refine lv_iconst (v := nI 0) hx hb dX5_step_41 (by decide) ?_
        exact hret H locs _ ([(am 0, .inr (5, [.int (nI 1), .ref (am 1), .ref (am 2), .ref (am 3), .int (-1), .ref (am 4), .ref (am 5), .ref (am 6), .ref (am 7), .ref (am 8), .ref (am 9), .ref (am 10), .int en, .int cf, .ref (am 11), .ref (am 12), .ref (am 13), .ref (am 14), .ref (am 15)])), (am 4, .inl (cB, 240, .inl mk)), (am 5, .inl (cB, 240, .inl mf)), (am 6, .inl (cB, 240, .inl mg)), (am 7, .inl (cI, 240, .inl mv))] : va_W) _ ls hP hD hS dX5_step_42 rfl

abbrev rm_X5_entry : Room := { frames := 0, cells := 0, slots := 0, locals := 0 }
set_option maxHeartbeats 4000000 in
set_option maxRecDepth 100000 in
theorem c_M_entry (l : Launch) (dC : Nat → ClassId) (dI : Nat → Nat → Nat) (cI cS cB cZ : ClassId) (am : Nat → Nat) (cd st en cf : Int32) (va pu ta pl : Nat → Int32) (ga : Nat → Nat → Int32) (n : Nat) (hn : n ≤ 330) (hva : ∀ k, k < n → va k = ga 13 k) (hpu : ∀ k, k < n → pu k = ga 14 k) (hta : ∀ k, k < n → ta k = ga 15 k) (hpl : ∀ k, k < n → pl k = ga 16 k) (x y : Int32) : zI l (dC, dI) vwCl (zTm cI cS cB cZ) zNW yX5_entry wsX5_entry rm_X5_entry [.ref (am 0), .int x, .int y] ([(am 0, .inr (5, [.int cd, .ref (am 1), .ref (am 2), .ref (am 3), .int st, .ref (am 4), .ref (am 5), .ref (am 6), .ref (am 7), .ref (am 8), .ref (am 9), .ref (am 10), .int (nI n), .int cf, .ref (am 11), .ref (am 12), .ref (am 13), .ref (am 14), .ref (am 15)])), (am 11, .inl (cI, 330, .inl va)), (am 12, .inl (cB, 330, .inl pu)), (am 13, .inl (cB, 330, .inl ta)), (am 14, .inl (cB, 330, .inl pl))] : va_W) (fun z w => ((∃ k j, k < n ∧ x = nI k ∧ j < 4 ∧ y = nI j ∧ z = ga (13 + j) k) ∧ w = ([(am 0, .inr (5, [.int (nI 0), .ref (am 1), .ref (am 2), .ref (am 3), .int st, .ref (am 4), .ref (am 5), .ref (am 6), .ref (am 7), .ref (am 8), .ref (am 9), .ref (am 10), .int (nI n), .int cf, .ref (am 11), .ref (am 12), .ref (am 13), .ref (am 14), .ref (am 15)])), (am 11, .inl (cI, 330, .inl va)), (am 12, .inl (cB, 330, .inl pu)), (am 13, .inl (cB, 330, .inl ta)), (am 14, .inl (cB, 330, .inl pl))] : va_W)) ∨ (¬ zAt x n ∧ w = ([(am 0, .inr (5, [.int (nI 1), .ref (am 1), .ref (am 2), .ref (am 3), .int st, .ref (am 4), .ref (am 5), .ref (am 6), .ref (am 7), .ref (am 8), .ref (am 9), .ref (am 10), .int (nI n), .int cf, .ref (am 11), .ref (am 12), .ref (am 13), .ref (am 14), .ref (am 15)])), (am 11, .inl (cI, 330, .inl va)), (am 12, .inl (cB, 330, .inl pu)), (am 13, .inl (cB, 330, .inl ta)), (am 14, .inl (cB, 330, .inl pl))] : va_W)) ∨ (zAt x n ∧ (y.toInt < 0 ∨ 3 < y.toInt) ∧ w = ([(am 0, .inr (5, [.int (nI 2), .ref (am 1), .ref (am 2), .ref (am 3), .int st, .ref (am 4), .ref (am 5), .ref (am 6), .ref (am 7), .ref (am 8), .ref (am 9), .ref (am 10), .int (nI n), .int cf, .ref (am 11), .ref (am 12), .ref (am 13), .ref (am 14), .ref (am 15)])), (am 11, .inl (cI, 330, .inl va)), (am 12, .inl (cB, 330, .inl pu)), (am 13, .inl (cB, 330, .inl ta)), (am 14, .inl (cB, 330, .inl pl))] : va_W))) := by
  refine z_ofI (cc := cX5_entry) (maxL := 3) (Or.inl rfl) (by decide) rfl (Nat.le_of_ble_eq_true rfl) ?_
  intro p e s m args below meth c A Q ls hI hret
  obtain ⟨hx, hb, hml, hown, hts, hnm, hA, hK, hN, hP, hD, hS, hl⟩ := hI
  have hown : s.vm.findClass RX5 = some m.cls := hown
  have hl : lv_has ls 3 [(0, .ref (am 0)), (1, .int x), (2, .int y)] := hl
  have hP : va_P (dC, dI) vwCl (([(am 0, .inr (5, [.int cd, .ref (am 1), .ref (am 2), .ref (am 3), .int st, .ref (am 4), .ref (am 5), .ref (am 6), .ref (am 7), .ref (am 8), .ref (am 9), .ref (am 10), .int (nI n), .int cf, .ref (am 11), .ref (am 12), .ref (am 13), .ref (am 14), .ref (am 15)])), (am 11, .inl (cI, 330, .inl va)), (am 12, .inl (cB, 330, .inl pu)), (am 13, .inl (cB, 330, .inl ta)), (am 14, .inl (cB, 330, .inl pl))] : va_W) ++ ([] : va_W)) s.heap := hP
  have hD : va_D A (([(am 0, .inr (5, [.int cd, .ref (am 1), .ref (am 2), .ref (am 3), .int st, .ref (am 4), .ref (am 5), .ref (am 6), .ref (am 7), .ref (am 8), .ref (am 9), .ref (am 10), .int (nI n), .int cf, .ref (am 11), .ref (am 12), .ref (am 13), .ref (am 14), .ref (am 15)])), (am 11, .inl (cI, 330, .inl va)), (am 12, .inl (cB, 330, .inl pu)), (am 13, .inl (cB, 330, .inl ta)), (am 14, .inl (cB, 330, .inl pl))] : va_W) ++ ([] : va_W)) := hD
  have hz : ∀ w ∈ zW, w.before args s = true := fun w h => hts w (List.mem_cons_of_mem _ h)
  refine lv_aload_n hx hb dX5_entry_0 rfl (lv_at hl 0 rfl) ?_
  refine lv_iload_n hx hb dX5_entry_1 rfl (lv_at hl 1 rfl) ?_
  refine lv_if_lt (tgt := 13) hx hb dX5_entry_2 (by decide) (fun c1 => ?_) (fun c1 => ?_)
  · refine lv_iconst (v := nI 1) hx hb dX5_entry_13 (by decide) ?_
    refine lv_goto (tgt := 31) hx hb dX5_entry_14 (by decide) ?_
    refine va_put (D := (dC, dI)) (ci := 5) (v := .int (nI 1)) (ty := .int) (C := RX5) (T := TX5) (N := 19) hx hb hz hinX5 tyX5 tyX5_ok nmX5 hown hK hP hD hS 0 rfl rfl 0 (by decide) (hz _ zw_478) (fun _ h9 => h9) rfl (by decide +kernel) rfl rfl (Nat.le_of_ble_eq_true rfl) dX5_entry_31 (fun H locs hP hD hS => ?_)
    have hP : va_P (dC, dI) vwCl (([(am 0, .inr (5, [.int (nI 1), .ref (am 1), .ref (am 2), .ref (am 3), .int st, .ref (am 4), .ref (am 5), .ref (am 6), .ref (am 7), .ref (am 8), .ref (am 9), .ref (am 10), .int (nI n), .int cf, .ref (am 11), .ref (am 12), .ref (am 13), .ref (am 14), .ref (am 15)])), (am 11, .inl (cI, 330, .inl va)), (am 12, .inl (cB, 330, .inl pu)), (am 13, .inl (cB, 330, .inl ta)), (am 14, .inl (cB, 330, .inl pl))] : va_W) ++ ([] : va_W)) H := hP
    have hD : va_D A (([(am 0, .inr (5, [.int (nI 1), .ref (am 1), .ref (am 2), .ref (am 3), .int st, .ref (am 4), .ref (am 5), .ref (am 6), .ref (am 7), .ref (am 8), .ref (am 9), .ref (am 10), .int (nI n), .int cf, .ref (am 11), .ref (am 12), .ref (am 13), .ref (am 14), .ref (am 15)])), (am 11, .inl (cI, 330, .inl va)), (am 12, .inl (cB, 330, .inl pu)), (am 13, .inl (cB, 330, .inl ta)), (am 14, .inl (cB, 330, .inl pl))] : va_W) ++ ([] : va_W)) := hD
    refine lv_aload_n hx hb dX5_entry_34 rfl (lv_at hl 0 rfl) ?_
    refine va_get (D := (dC, dI)) (ci := 5) (v := .int (nI 1)) (C := RX5) (T := TX5) (N := 19) hx hb hz hinX5 hown hK hP 0 rfl rfl 0 (by decide) (hz _ zw_478) (fun _ h9 => h9) rfl dX5_entry_35 ?_
    refine lv_if_le (tgt := 43) hx hb dX5_entry_38 (by decide) (fun ck1 => ?_) (fun ck1 => ?_)
    · exact absurd ck1 (by decide)
    · refine lv_iconst (v := nI 0) hx hb dX5_entry_41 (by decide) ?_
      exact hret H locs _ ([(am 0, .inr (5, [.int (nI 1), .ref (am 1), .ref (am 2), .ref (am 3), .int st, .ref (am 4), .ref (am 5), .ref (am 6), .ref (am 7), .ref (am 8), .ref (am 9), .ref (am 10), .int (nI n), .int cf, .ref (am 11), .ref (am 12), .ref (am 13), .ref (am 14), .ref (am 15)])), (am 11, .inl (cI, 330, .inl va)), (am 12, .inl (cB, 330, .inl pu)), (am 13, .inl (cB, 330, .inl ta)), (am 14, .inl (cB, 330, .inl pl))] : va_W) _ ls hP hD hS dX5_entry_42 (Or.inr (Or.inl ⟨zAt_neg (by omega) c1, rfl⟩))
  · refine lv_iload_n hx hb dX5_entry_5 rfl (lv_at hl 1 rfl) ?_
    refine lv_aload_n hx hb dX5_entry_6 rfl (lv_at hl 0 rfl) ?_
    refine va_get (D := (dC, dI)) (ci := 5) (v := .int (nI n)) (C := RX5) (T := TX5) (N := 19) hx hb hz hinX5 hown hK hP 0 rfl rfl 12 (by decide) (hz _ zw_490) (fun _ h9 => h9) rfl dX5_entry_7 ?_
    refine lv_icmp_lt (tgt := 17) hx hb dX5_entry_10 (by decide) (fun c2 => ?_) (fun c2 => ?_)
    · have hat := zAt_lt (by omega) c1 c2
      obtain ⟨k, hk, rfl⟩ := id hat
      refine lv_iload_n hx hb dX5_entry_17 rfl (lv_at hl 2 rfl) ?_
      refine lv_if_lt (tgt := 26) hx hb dX5_entry_18 (by decide) (fun c3 => ?_) (fun c3 => ?_)
      · refine lv_iconst (v := nI 2) hx hb dX5_entry_26 (by decide) ?_
        refine lv_goto (tgt := 31) hx hb dX5_entry_27 (by decide) ?_
        refine va_put (D := (dC, dI)) (ci := 5) (v := .int (nI 2)) (ty := .int) (C := RX5) (T := TX5) (N := 19) hx hb hz hinX5 tyX5 tyX5_ok nmX5 hown hK hP hD hS 0 rfl rfl 0 (by decide) (hz _ zw_478) (fun _ h9 => h9) rfl (by decide +kernel) rfl rfl (Nat.le_of_ble_eq_true rfl) dX5_entry_31 (fun H locs hP hD hS => ?_)
        have hP : va_P (dC, dI) vwCl (([(am 0, .inr (5, [.int (nI 2), .ref (am 1), .ref (am 2), .ref (am 3), .int st, .ref (am 4), .ref (am 5), .ref (am 6), .ref (am 7), .ref (am 8), .ref (am 9), .ref (am 10), .int (nI n), .int cf, .ref (am 11), .ref (am 12), .ref (am 13), .ref (am 14), .ref (am 15)])), (am 11, .inl (cI, 330, .inl va)), (am 12, .inl (cB, 330, .inl pu)), (am 13, .inl (cB, 330, .inl ta)), (am 14, .inl (cB, 330, .inl pl))] : va_W) ++ ([] : va_W)) H := hP
        have hD : va_D A (([(am 0, .inr (5, [.int (nI 2), .ref (am 1), .ref (am 2), .ref (am 3), .int st, .ref (am 4), .ref (am 5), .ref (am 6), .ref (am 7), .ref (am 8), .ref (am 9), .ref (am 10), .int (nI n), .int cf, .ref (am 11), .ref (am 12), .ref (am 13), .ref (am 14), .ref (am 15)])), (am 11, .inl (cI, 330, .inl va)), (am 12, .inl (cB, 330, .inl pu)), (am 13, .inl (cB, 330, .inl ta)), (am 14, .inl (cB, 330, .inl pl))] : va_W) ++ ([] : va_W)) := hD
        refine lv_aload_n hx hb dX5_entry_34 rfl (lv_at hl 0 rfl) ?_
        refine va_get (D := (dC, dI)) (ci := 5) (v := .int (nI 2)) (C := RX5) (T := TX5) (N := 19) hx hb hz hinX5 hown hK hP 0 rfl rfl 0 (by decide) (hz _ zw_478) (fun _ h9 => h9) rfl dX5_entry_35 ?_
        refine lv_if_le (tgt := 43) hx hb dX5_entry_38 (by decide) (fun ck2 => ?_) (fun ck2 => ?_)
        · exact absurd ck2 (by decide)
        · refine lv_iconst (v := nI 0) hx hb dX5_entry_41 (by decide) ?_
          exact hret H locs _ ([(am 0, .inr (5, [.int (nI 2), .ref (am 1), .ref (am 2), .ref (am 3), .int st, .ref (am 4), .ref (am 5), .ref (am 6), .ref (am 7), .ref (am 8), .ref (am 9), .ref (am 10), .int (nI n), .int cf, .ref (am 11), .ref (am 12), .ref (am 13), .ref (am 14), .ref (am 15)])), (am 11, .inl (cI, 330, .inl va)), (am 12, .inl (cB, 330, .inl pu)), (am 13, .inl (cB, 330, .inl ta)), (am 14, .inl (cB, 330, .inl pl))] : va_W) _ ls hP hD hS dX5_entry_42 (Or.inr (Or.inr ⟨hat, sw_lo c3, rfl⟩))
      · refine lv_iload_n hx hb dX5_entry_21 rfl (lv_at hl 2 rfl) ?_
        refine lv_iconst (v := nI 3) hx hb dX5_entry_22 (by decide) ?_
        refine lv_icmp_le (tgt := 30) hx hb dX5_entry_23 (by decide) (fun c4 => ?_) (fun c4 => ?_)
        · refine lv_iconst (v := nI 0) hx hb dX5_entry_30 (by decide) ?_
          refine va_put (D := (dC, dI)) (ci := 5) (v := .int (nI 0)) (ty := .int) (C := RX5) (T := TX5) (N := 19) hx hb hz hinX5 tyX5 tyX5_ok nmX5 hown hK hP hD hS 0 rfl rfl 0 (by decide) (hz _ zw_478) (fun _ h9 => h9) rfl (by decide +kernel) rfl rfl (Nat.le_of_ble_eq_true rfl) dX5_entry_31 (fun H locs hP hD hS => ?_)
          have hP : va_P (dC, dI) vwCl (([(am 0, .inr (5, [.int (nI 0), .ref (am 1), .ref (am 2), .ref (am 3), .int st, .ref (am 4), .ref (am 5), .ref (am 6), .ref (am 7), .ref (am 8), .ref (am 9), .ref (am 10), .int (nI n), .int cf, .ref (am 11), .ref (am 12), .ref (am 13), .ref (am 14), .ref (am 15)])), (am 11, .inl (cI, 330, .inl va)), (am 12, .inl (cB, 330, .inl pu)), (am 13, .inl (cB, 330, .inl ta)), (am 14, .inl (cB, 330, .inl pl))] : va_W) ++ ([] : va_W)) H := hP
          have hD : va_D A (([(am 0, .inr (5, [.int (nI 0), .ref (am 1), .ref (am 2), .ref (am 3), .int st, .ref (am 4), .ref (am 5), .ref (am 6), .ref (am 7), .ref (am 8), .ref (am 9), .ref (am 10), .int (nI n), .int cf, .ref (am 11), .ref (am 12), .ref (am 13), .ref (am 14), .ref (am 15)])), (am 11, .inl (cI, 330, .inl va)), (am 12, .inl (cB, 330, .inl pu)), (am 13, .inl (cB, 330, .inl ta)), (am 14, .inl (cB, 330, .inl pl))] : va_W) ++ ([] : va_W)) := hD
          refine lv_aload_n hx hb dX5_entry_34 rfl (lv_at hl 0 rfl) ?_
          refine va_get (D := (dC, dI)) (ci := 5) (v := .int (nI 0)) (C := RX5) (T := TX5) (N := 19) hx hb hz hinX5 hown hK hP 0 rfl rfl 0 (by decide) (hz _ zw_478) (fun _ h9 => h9) rfl dX5_entry_35 ?_
          rcases sw_of c3 c4 with rfl | rfl | rfl | rfl
          · refine lv_if_le (tgt := 43) hx hb dX5_entry_38 (by decide) (fun ck3 => ?_) (fun ck3 => ?_)
            · refine lv_iload_n hx hb dX5_entry_43 rfl (lv_at hl 2 rfl) ?_
              refine lv_if_ne (tgt := 56) hx hb dX5_entry_44 (by decide) (fun ck4 => ?_) (fun ck4 => ?_)
              · exact absurd ck4 (by decide)
              · refine lv_aload_n hx hb dX5_entry_47 rfl (lv_at hl 0 rfl) ?_
                refine va_get (D := (dC, dI)) (ci := 5) (v := .ref (am 11)) (C := RX5) (T := TX5) (N := 19) hx hb hz hinX5 hown hK hP 0 rfl rfl 14 (by decide) (hz _ zw_492) (fun _ h9 => h9) rfl dX5_entry_48 ?_
                refine lv_iload_n hx hb dX5_entry_51 rfl (lv_at hl 1 rfl) ?_
                refine z_iald (v := ga 13 k) hx hb hK hP 1 0 rfl rfl (k := k) (by omega) (by omega) (hva k hk) dX5_entry_52 ?_
                refine lv_goto (tgt := 90) hx hb dX5_entry_53 (by decide) ?_
                exact hret H locs _ ([(am 0, .inr (5, [.int (nI 0), .ref (am 1), .ref (am 2), .ref (am 3), .int st, .ref (am 4), .ref (am 5), .ref (am 6), .ref (am 7), .ref (am 8), .ref (am 9), .ref (am 10), .int (nI n), .int cf, .ref (am 11), .ref (am 12), .ref (am 13), .ref (am 14), .ref (am 15)])), (am 11, .inl (cI, 330, .inl va)), (am 12, .inl (cB, 330, .inl pu)), (am 13, .inl (cB, 330, .inl ta)), (am 14, .inl (cB, 330, .inl pl))] : va_W) _ ls hP hD hS dX5_entry_90 (Or.inl ⟨⟨k, 0, hk, rfl, by decide, rfl, rfl⟩, rfl⟩)
            · exact absurd ck3 (by decide)
          · refine lv_if_le (tgt := 43) hx hb dX5_entry_38 (by decide) (fun ck5 => ?_) (fun ck5 => ?_)
            · refine lv_iload_n hx hb dX5_entry_43 rfl (lv_at hl 2 rfl) ?_
              refine lv_if_ne (tgt := 56) hx hb dX5_entry_44 (by decide) (fun ck6 => ?_) (fun ck6 => ?_)
              · refine lv_iload_n hx hb dX5_entry_56 rfl (lv_at hl 2 rfl) ?_
                refine lv_iconst (v := nI 1) hx hb dX5_entry_57 (by decide) ?_
                refine lv_icmp_ne (tgt := 70) hx hb dX5_entry_58 (by decide) (fun ck7 => ?_) (fun ck7 => ?_)
                · exact absurd ck7 (by decide)
                · refine lv_aload_n hx hb dX5_entry_61 rfl (lv_at hl 0 rfl) ?_
                  refine va_get (D := (dC, dI)) (ci := 5) (v := .ref (am 12)) (C := RX5) (T := TX5) (N := 19) hx hb hz hinX5 hown hK hP 0 rfl rfl 15 (by decide) (hz _ zw_493) (fun _ h9 => h9) rfl dX5_entry_62 ?_
                  refine lv_iload_n hx hb dX5_entry_65 rfl (lv_at hl 1 rfl) ?_
                  refine z_bald (v := ga 14 k) hx hb hK hP 2 2 rfl rfl (k := k) (by omega) (by omega) (hpu k hk) dX5_entry_66 ?_
                  refine lv_goto (tgt := 90) hx hb dX5_entry_67 (by decide) ?_
                  exact hret H locs _ ([(am 0, .inr (5, [.int (nI 0), .ref (am 1), .ref (am 2), .ref (am 3), .int st, .ref (am 4), .ref (am 5), .ref (am 6), .ref (am 7), .ref (am 8), .ref (am 9), .ref (am 10), .int (nI n), .int cf, .ref (am 11), .ref (am 12), .ref (am 13), .ref (am 14), .ref (am 15)])), (am 11, .inl (cI, 330, .inl va)), (am 12, .inl (cB, 330, .inl pu)), (am 13, .inl (cB, 330, .inl ta)), (am 14, .inl (cB, 330, .inl pl))] : va_W) _ ls hP hD hS dX5_entry_90 (Or.inl ⟨⟨k, 1, hk, rfl, by decide, rfl, rfl⟩, rfl⟩)
              · exact absurd ck6 (by decide)
            · exact absurd ck5 (by decide)
          · refine lv_if_le (tgt := 43) hx hb dX5_entry_38 (by decide) (fun ck8 => ?_) (fun ck8 => ?_)
            · refine lv_iload_n hx hb dX5_entry_43 rfl (lv_at hl 2 rfl) ?_
              refine lv_if_ne (tgt := 56) hx hb dX5_entry_44 (by decide) (fun ck9 => ?_) (fun ck9 => ?_)
              · refine lv_iload_n hx hb dX5_entry_56 rfl (lv_at hl 2 rfl) ?_
                refine lv_iconst (v := nI 1) hx hb dX5_entry_57 (by decide) ?_
                refine lv_icmp_ne (tgt := 70) hx hb dX5_entry_58 (by decide) (fun ck10 => ?_) (fun ck10 => ?_)
                · refine lv_iload_n hx hb dX5_entry_70 rfl (lv_at hl 2 rfl) ?_
                  refine lv_iconst (v := nI 2) hx hb dX5_entry_71 (by decide) ?_
                  refine lv_icmp_ne (tgt := 84) hx hb dX5_entry_72 (by decide) (fun ck11 => ?_) (fun ck11 => ?_)
                  · exact absurd ck11 (by decide)
                  · refine lv_aload_n hx hb dX5_entry_75 rfl (lv_at hl 0 rfl) ?_
                    refine va_get (D := (dC, dI)) (ci := 5) (v := .ref (am 13)) (C := RX5) (T := TX5) (N := 19) hx hb hz hinX5 hown hK hP 0 rfl rfl 16 (by decide) (hz _ zw_494) (fun _ h9 => h9) rfl dX5_entry_76 ?_
                    refine lv_iload_n hx hb dX5_entry_79 rfl (lv_at hl 1 rfl) ?_
                    refine z_bald (v := ga 15 k) hx hb hK hP 3 2 rfl rfl (k := k) (by omega) (by omega) (hta k hk) dX5_entry_80 ?_
                    refine lv_goto (tgt := 90) hx hb dX5_entry_81 (by decide) ?_
                    exact hret H locs _ ([(am 0, .inr (5, [.int (nI 0), .ref (am 1), .ref (am 2), .ref (am 3), .int st, .ref (am 4), .ref (am 5), .ref (am 6), .ref (am 7), .ref (am 8), .ref (am 9), .ref (am 10), .int (nI n), .int cf, .ref (am 11), .ref (am 12), .ref (am 13), .ref (am 14), .ref (am 15)])), (am 11, .inl (cI, 330, .inl va)), (am 12, .inl (cB, 330, .inl pu)), (am 13, .inl (cB, 330, .inl ta)), (am 14, .inl (cB, 330, .inl pl))] : va_W) _ ls hP hD hS dX5_entry_90 (Or.inl ⟨⟨k, 2, hk, rfl, by decide, rfl, rfl⟩, rfl⟩)
                · exact absurd ck10 (by decide)
              · exact absurd ck9 (by decide)
            · exact absurd ck8 (by decide)
          · refine lv_if_le (tgt := 43) hx hb dX5_entry_38 (by decide) (fun ck12 => ?_) (fun ck12 => ?_)
            · refine lv_iload_n hx hb dX5_entry_43 rfl (lv_at hl 2 rfl) ?_
              refine lv_if_ne (tgt := 56) hx hb dX5_entry_44 (by decide) (fun ck13 => ?_) (fun ck13 => ?_)
              · refine lv_iload_n hx hb dX5_entry_56 rfl (lv_at hl 2 rfl) ?_
                refine lv_iconst (v := nI 1) hx hb dX5_entry_57 (by decide) ?_
                refine lv_icmp_ne (tgt := 70) hx hb dX5_entry_58 (by decide) (fun ck14 => ?_) (fun ck14 => ?_)
                · refine lv_iload_n hx hb dX5_entry_70 rfl (lv_at hl 2 rfl) ?_
                  refine lv_iconst (v := nI 2) hx hb dX5_entry_71 (by decide) ?_
                  refine lv_icmp_ne (tgt := 84) hx hb dX5_entry_72 (by decide) (fun ck15 => ?_) (fun ck15 => ?_)
                  · refine lv_aload_n hx hb dX5_entry_84 rfl (lv_at hl 0 rfl) ?_
                    refine va_get (D := (dC, dI)) (ci := 5) (v := .ref (am 14)) (C := RX5) (T := TX5) (N := 19) hx hb hz hinX5 hown hK hP 0 rfl rfl 17 (by decide) (hz _ zw_495) (fun _ h9 => h9) rfl dX5_entry_85 ?_
                    refine lv_iload_n hx hb dX5_entry_88 rfl (lv_at hl 1 rfl) ?_
                    refine z_bald (v := ga 16 k) hx hb hK hP 4 2 rfl rfl (k := k) (by omega) (by omega) (hpl k hk) dX5_entry_89 ?_
                    exact hret H locs _ ([(am 0, .inr (5, [.int (nI 0), .ref (am 1), .ref (am 2), .ref (am 3), .int st, .ref (am 4), .ref (am 5), .ref (am 6), .ref (am 7), .ref (am 8), .ref (am 9), .ref (am 10), .int (nI n), .int cf, .ref (am 11), .ref (am 12), .ref (am 13), .ref (am 14), .ref (am 15)])), (am 11, .inl (cI, 330, .inl va)), (am 12, .inl (cB, 330, .inl pu)), (am 13, .inl (cB, 330, .inl ta)), (am 14, .inl (cB, 330, .inl pl))] : va_W) _ ls hP hD hS dX5_entry_90 (Or.inl ⟨⟨k, 3, hk, rfl, by decide, rfl, rfl⟩, rfl⟩)
                  · exact absurd ck15 (by decide)
                · exact absurd ck14 (by decide)
              · exact absurd ck13 (by decide)
            · exact absurd ck12 (by decide)
        · refine lv_iconst (v := nI 2) hx hb dX5_entry_26 (by decide) ?_
          refine lv_goto (tgt := 31) hx hb dX5_entry_27 (by decide) ?_
          refine va_put (D := (dC, dI)) (ci := 5) (v := .int (nI 2)) (ty := .int) (C := RX5) (T := TX5) (N := 19) hx hb hz hinX5 tyX5 tyX5_ok nmX5 hown hK hP hD hS 0 rfl rfl 0 (by decide) (hz _ zw_478) (fun _ h9 => h9) rfl (by decide +kernel) rfl rfl (Nat.le_of_ble_eq_true rfl) dX5_entry_31 (fun H locs hP hD hS => ?_)
          have hP : va_P (dC, dI) vwCl (([(am 0, .inr (5, [.int (nI 2), .ref (am 1), .ref (am 2), .ref (am 3), .int st, .ref (am 4), .ref (am 5), .ref (am 6), .ref (am 7), .ref (am 8), .ref (am 9), .ref (am 10), .int (nI n), .int cf, .ref (am 11), .ref (am 12), .ref (am 13), .ref (am 14), .ref (am 15)])), (am 11, .inl (cI, 330, .inl va)), (am 12, .inl (cB, 330, .inl pu)), (am 13, .inl (cB, 330, .inl ta)), (am 14, .inl (cB, 330, .inl pl))] : va_W) ++ ([] : va_W)) H := hP
          have hD : va_D A (([(am 0, .inr (5, [.int (nI 2), .ref (am 1), .ref (am 2), .ref (am 3), .int st, .ref (am 4), .ref (am 5), .ref (am 6), .ref (am 7), .ref (am 8), .ref (am 9), .ref (am 10), .int (nI n), .int cf, .ref (am 11), .ref (am 12), .ref (am 13), .ref (am 14), .ref (am 15)])), (am 11, .inl (cI, 330, .inl va)), (am 12, .inl (cB, 330, .inl pu)), (am 13, .inl (cB, 330, .inl ta)), (am 14, .inl (cB, 330, .inl pl))] : va_W) ++ ([] : va_W)) := hD
          refine lv_aload_n hx hb dX5_entry_34 rfl (lv_at hl 0 rfl) ?_
          refine va_get (D := (dC, dI)) (ci := 5) (v := .int (nI 2)) (C := RX5) (T := TX5) (N := 19) hx hb hz hinX5 hown hK hP 0 rfl rfl 0 (by decide) (hz _ zw_478) (fun _ h9 => h9) rfl dX5_entry_35 ?_
          refine lv_if_le (tgt := 43) hx hb dX5_entry_38 (by decide) (fun ck16 => ?_) (fun ck16 => ?_)
          · exact absurd ck16 (by decide)
          · refine lv_iconst (v := nI 0) hx hb dX5_entry_41 (by decide) ?_
            exact hret H locs _ ([(am 0, .inr (5, [.int (nI 2), .ref (am 1), .ref (am 2), .ref (am 3), .int st, .ref (am 4), .ref (am 5), .ref (am 6), .ref (am 7), .ref (am 8), .ref (am 9), .ref (am 10), .int (nI n), .int cf, .ref (am 11), .ref (am 12), .ref (am 13), .ref (am 14), .ref (am 15)])), (am 11, .inl (cI, 330, .inl va)), (am 12, .inl (cB, 330, .inl pu)), (am 13, .inl (cB, 330, .inl ta)), (am 14, .inl (cB, 330, .inl pl))] : va_W) _ ls hP hD hS dX5_entry_42 (Or.inr (Or.inr ⟨hat, sw_hi c4, rfl⟩))
    · refine lv_iconst (v := nI 1) hx hb dX5_entry_13 (by decide) ?_
      refine lv_goto (tgt := 31) hx hb dX5_entry_14 (by decide) ?_
      refine va_put (D := (dC, dI)) (ci := 5) (v := .int (nI 1)) (ty := .int) (C := RX5) (T := TX5) (N := 19) hx hb hz hinX5 tyX5 tyX5_ok nmX5 hown hK hP hD hS 0 rfl rfl 0 (by decide) (hz _ zw_478) (fun _ h9 => h9) rfl (by decide +kernel) rfl rfl (Nat.le_of_ble_eq_true rfl) dX5_entry_31 (fun H locs hP hD hS => ?_)
      have hP : va_P (dC, dI) vwCl (([(am 0, .inr (5, [.int (nI 1), .ref (am 1), .ref (am 2), .ref (am 3), .int st, .ref (am 4), .ref (am 5), .ref (am 6), .ref (am 7), .ref (am 8), .ref (am 9), .ref (am 10), .int (nI n), .int cf, .ref (am 11), .ref (am 12), .ref (am 13), .ref (am 14), .ref (am 15)])), (am 11, .inl (cI, 330, .inl va)), (am 12, .inl (cB, 330, .inl pu)), (am 13, .inl (cB, 330, .inl ta)), (am 14, .inl (cB, 330, .inl pl))] : va_W) ++ ([] : va_W)) H := hP
      have hD : va_D A (([(am 0, .inr (5, [.int (nI 1), .ref (am 1), .ref (am 2), .ref (am 3), .int st, .ref (am 4), .ref (am 5), .ref (am 6), .ref (am 7), .ref (am 8), .ref (am 9), .ref (am 10), .int (nI n), .int cf, .ref (am 11), .ref (am 12), .ref (am 13), .ref (am 14), .ref (am 15)])), (am 11, .inl (cI, 330, .inl va)), (am 12, .inl (cB, 330, .inl pu)), (am 13, .inl (cB, 330, .inl ta)), (am 14, .inl (cB, 330, .inl pl))] : va_W) ++ ([] : va_W)) := hD
      refine lv_aload_n hx hb dX5_entry_34 rfl (lv_at hl 0 rfl) ?_
      refine va_get (D := (dC, dI)) (ci := 5) (v := .int (nI 1)) (C := RX5) (T := TX5) (N := 19) hx hb hz hinX5 hown hK hP 0 rfl rfl 0 (by decide) (hz _ zw_478) (fun _ h9 => h9) rfl dX5_entry_35 ?_
      refine lv_if_le (tgt := 43) hx hb dX5_entry_38 (by decide) (fun ck17 => ?_) (fun ck17 => ?_)
      · exact absurd ck17 (by decide)
      · refine lv_iconst (v := nI 0) hx hb dX5_entry_41 (by decide) ?_
        exact hret H locs _ ([(am 0, .inr (5, [.int (nI 1), .ref (am 1), .ref (am 2), .ref (am 3), .int st, .ref (am 4), .ref (am 5), .ref (am 6), .ref (am 7), .ref (am 8), .ref (am 9), .ref (am 10), .int (nI n), .int cf, .ref (am 11), .ref (am 12), .ref (am 13), .ref (am 14), .ref (am 15)])), (am 11, .inl (cI, 330, .inl va)), (am 12, .inl (cB, 330, .inl pu)), (am 13, .inl (cB, 330, .inl ta)), (am 14, .inl (cB, 330, .inl pl))] : va_W) _ ls hP hD hS dX5_entry_42 (Or.inr (Or.inl ⟨zAt_ge (by omega) c2, rfl⟩))

set_option maxHeartbeats 4000000 in
set_option maxRecDepth 100000 in
theorem c_M_entry0 (l : Launch) (dC : Nat → ClassId) (dI : Nat → Nat → Nat) (cI cS cB cZ : ClassId) (am : Nat → Nat) (cd st en cf : Int32) (va pu ta pl : Nat → Int32) (x y : Int32) : zI l (dC, dI) vwCl (zTm cI cS cB cZ) zNW yX5_entry wsX5_entry rm_X5_entry [.ref (am 0), .int x, .int y] ([(am 0, .inr (5, [.int cd, .ref (am 1), .ref (am 2), .ref (am 3), .int st, .ref (am 4), .ref (am 5), .ref (am 6), .ref (am 7), .ref (am 8), .ref (am 9), .ref (am 10), .int (-1), .int cf, .ref (am 11), .ref (am 12), .ref (am 13), .ref (am 14), .ref (am 15)])), (am 11, .inl (cI, 330, .inl va)), (am 12, .inl (cB, 330, .inl pu)), (am 13, .inl (cB, 330, .inl ta)), (am 14, .inl (cB, 330, .inl pl))] : va_W) (fun z w => w = ([(am 0, .inr (5, [.int (nI 1), .ref (am 1), .ref (am 2), .ref (am 3), .int st, .ref (am 4), .ref (am 5), .ref (am 6), .ref (am 7), .ref (am 8), .ref (am 9), .ref (am 10), .int (-1), .int cf, .ref (am 11), .ref (am 12), .ref (am 13), .ref (am 14), .ref (am 15)])), (am 11, .inl (cI, 330, .inl va)), (am 12, .inl (cB, 330, .inl pu)), (am 13, .inl (cB, 330, .inl ta)), (am 14, .inl (cB, 330, .inl pl))] : va_W)) := by
  refine z_ofI (cc := cX5_entry) (maxL := 3) (Or.inl rfl) (by decide) rfl (Nat.le_of_ble_eq_true rfl) ?_
  intro p e s m args below meth c A Q ls hI hret
  obtain ⟨hx, hb, hml, hown, hts, hnm, hA, hK, hN, hP, hD, hS, hl⟩ := hI
  have hown : s.vm.findClass RX5 = some m.cls := hown
  have hl : lv_has ls 3 [(0, .ref (am 0)), (1, .int x), (2, .int y)] := hl
  have hP : va_P (dC, dI) vwCl (([(am 0, .inr (5, [.int cd, .ref (am 1), .ref (am 2), .ref (am 3), .int st, .ref (am 4), .ref (am 5), .ref (am 6), .ref (am 7), .ref (am 8), .ref (am 9), .ref (am 10), .int (-1), .int cf, .ref (am 11), .ref (am 12), .ref (am 13), .ref (am 14), .ref (am 15)])), (am 11, .inl (cI, 330, .inl va)), (am 12, .inl (cB, 330, .inl pu)), (am 13, .inl (cB, 330, .inl ta)), (am 14, .inl (cB, 330, .inl pl))] : va_W) ++ ([] : va_W)) s.heap := hP
  have hD : va_D A (([(am 0, .inr (5, [.int cd, .ref (am 1), .ref (am 2), .ref (am 3), .int st, .ref (am 4), .ref (am 5), .ref (am 6), .ref (am 7), .ref (am 8), .ref (am 9), .ref (am 10), .int (-1), .int cf, .ref (am 11), .ref (am 12), .ref (am 13), .ref (am 14), .ref (am 15)])), (am 11, .inl (cI, 330, .inl va)), (am 12, .inl (cB, 330, .inl pu)), (am 13, .inl (cB, 330, .inl ta)), (am 14, .inl (cB, 330, .inl pl))] : va_W) ++ ([] : va_W)) := hD
  have hz : ∀ w ∈ zW, w.before args s = true := fun w h => hts w (List.mem_cons_of_mem _ h)
  refine lv_aload_n hx hb dX5_entry_0 rfl (lv_at hl 0 rfl) ?_
  refine lv_iload_n hx hb dX5_entry_1 rfl (lv_at hl 1 rfl) ?_
  refine lv_if_lt (tgt := 13) hx hb dX5_entry_2 (by decide) (fun c1 => ?_) (fun c1 => ?_)
  · refine lv_iconst (v := nI 1) hx hb dX5_entry_13 (by decide) ?_
    refine lv_goto (tgt := 31) hx hb dX5_entry_14 (by decide) ?_
    refine va_put (D := (dC, dI)) (ci := 5) (v := .int (nI 1)) (ty := .int) (C := RX5) (T := TX5) (N := 19) hx hb hz hinX5 tyX5 tyX5_ok nmX5 hown hK hP hD hS 0 rfl rfl 0 (by decide) (hz _ zw_478) (fun _ h9 => h9) rfl (by decide +kernel) rfl rfl (Nat.le_of_ble_eq_true rfl) dX5_entry_31 (fun H locs hP hD hS => ?_)
    have hP : va_P (dC, dI) vwCl (([(am 0, .inr (5, [.int (nI 1), .ref (am 1), .ref (am 2), .ref (am 3), .int st, .ref (am 4), .ref (am 5), .ref (am 6), .ref (am 7), .ref (am 8), .ref (am 9), .ref (am 10), .int (-1), .int cf, .ref (am 11), .ref (am 12), .ref (am 13), .ref (am 14), .ref (am 15)])), (am 11, .inl (cI, 330, .inl va)), (am 12, .inl (cB, 330, .inl pu)), (am 13, .inl (cB, 330, .inl ta)), (am 14, .inl (cB, 330, .inl pl))] : va_W) ++ ([] : va_W)) H := hP
    have hD : va_D A (([(am 0, .inr (5, [.int (nI 1), .ref (am 1), .ref (am 2), .ref (am 3), .int st, .ref (am 4), .ref (am 5), .ref (am 6), .ref (am 7), .ref (am 8), .ref (am 9), .ref (am 10), .int (-1), .int cf, .ref (am 11), .ref (am 12), .ref (am 13), .ref (am 14), .ref (am 15)])), (am 11, .inl (cI, 330, .inl va)), (am 12, .inl (cB, 330, .inl pu)), (am 13, .inl (cB, 330, .inl ta)), (am 14, .inl (cB, 330, .inl pl))] : va_W) ++ ([] : va_W)) := hD
    refine lv_aload_n hx hb dX5_entry_34 rfl (lv_at hl 0 rfl) ?_
    refine va_get (D := (dC, dI)) (ci := 5) (v := .int (nI 1)) (C := RX5) (T := TX5) (N := 19) hx hb hz hinX5 hown hK hP 0 rfl rfl 0 (by decide) (hz _ zw_478) (fun _ h9 => h9) rfl dX5_entry_35 ?_
    refine lv_if_le (tgt := 43) hx hb dX5_entry_38 (by decide) (fun ck1 => ?_) (fun ck1 => ?_)
    · exact absurd ck1 (by decide)
    · refine lv_iconst (v := nI 0) hx hb dX5_entry_41 (by decide) ?_
      exact hret H locs _ ([(am 0, .inr (5, [.int (nI 1), .ref (am 1), .ref (am 2), .ref (am 3), .int st, .ref (am 4), .ref (am 5), .ref (am 6), .ref (am 7), .ref (am 8), .ref (am 9), .ref (am 10), .int (-1), .int cf, .ref (am 11), .ref (am 12), .ref (am 13), .ref (am 14), .ref (am 15)])), (am 11, .inl (cI, 330, .inl va)), (am 12, .inl (cB, 330, .inl pu)), (am 13, .inl (cB, 330, .inl ta)), (am 14, .inl (cB, 330, .inl pl))] : va_W) _ ls hP hD hS dX5_entry_42 rfl
  · refine lv_iload_n hx hb dX5_entry_5 rfl (lv_at hl 1 rfl) ?_
    refine lv_aload_n hx hb dX5_entry_6 rfl (lv_at hl 0 rfl) ?_
    refine va_get (D := (dC, dI)) (ci := 5) (v := .int (-1)) (C := RX5) (T := TX5) (N := 19) hx hb hz hinX5 hown hK hP 0 rfl rfl 12 (by decide) (hz _ zw_490) (fun _ h9 => h9) rfl dX5_entry_7 ?_
    refine lv_icmp_lt (tgt := 17) hx hb dX5_entry_10 (by decide) (fun c2 => ?_) (fun c2 => ?_)
    · exact absurd c2 (z_ltm1 c1)
    · refine lv_iconst (v := nI 1) hx hb dX5_entry_13 (by decide) ?_
      refine lv_goto (tgt := 31) hx hb dX5_entry_14 (by decide) ?_
      refine va_put (D := (dC, dI)) (ci := 5) (v := .int (nI 1)) (ty := .int) (C := RX5) (T := TX5) (N := 19) hx hb hz hinX5 tyX5 tyX5_ok nmX5 hown hK hP hD hS 0 rfl rfl 0 (by decide) (hz _ zw_478) (fun _ h9 => h9) rfl (by decide +kernel) rfl rfl (Nat.le_of_ble_eq_true rfl) dX5_entry_31 (fun H locs hP hD hS => ?_)
      have hP : va_P (dC, dI) vwCl (([(am 0, .inr (5, [.int (nI 1), .ref (am 1), .ref (am 2), .ref (am 3), .int st, .ref (am 4), .ref (am 5), .ref (am 6), .ref (am 7), .ref (am 8), .ref (am 9), .ref (am 10), .int (-1), .int cf, .ref (am 11), .ref (am 12), .ref (am 13), .ref (am 14), .ref (am 15)])), (am 11, .inl (cI, 330, .inl va)), (am 12, .inl (cB, 330, .inl pu)), (am 13, .inl (cB, 330, .inl ta)), (am 14, .inl (cB, 330, .inl pl))] : va_W) ++ ([] : va_W)) H := hP
      have hD : va_D A (([(am 0, .inr (5, [.int (nI 1), .ref (am 1), .ref (am 2), .ref (am 3), .int st, .ref (am 4), .ref (am 5), .ref (am 6), .ref (am 7), .ref (am 8), .ref (am 9), .ref (am 10), .int (-1), .int cf, .ref (am 11), .ref (am 12), .ref (am 13), .ref (am 14), .ref (am 15)])), (am 11, .inl (cI, 330, .inl va)), (am 12, .inl (cB, 330, .inl pu)), (am 13, .inl (cB, 330, .inl ta)), (am 14, .inl (cB, 330, .inl pl))] : va_W) ++ ([] : va_W)) := hD
      refine lv_aload_n hx hb dX5_entry_34 rfl (lv_at hl 0 rfl) ?_
      refine va_get (D := (dC, dI)) (ci := 5) (v := .int (nI 1)) (C := RX5) (T := TX5) (N := 19) hx hb hz hinX5 hown hK hP 0 rfl rfl 0 (by decide) (hz _ zw_478) (fun _ h9 => h9) rfl dX5_entry_35 ?_
      refine lv_if_le (tgt := 43) hx hb dX5_entry_38 (by decide) (fun ck2 => ?_) (fun ck2 => ?_)
      · exact absurd ck2 (by decide)
      · refine lv_iconst (v := nI 0) hx hb dX5_entry_41 (by decide) ?_
        exact hret H locs _ ([(am 0, .inr (5, [.int (nI 1), .ref (am 1), .ref (am 2), .ref (am 3), .int st, .ref (am 4), .ref (am 5), .ref (am 6), .ref (am 7), .ref (am 8), .ref (am 9), .ref (am 10), .int (-1), .int cf, .ref (am 11), .ref (am 12), .ref (am 13), .ref (am 14), .ref (am 15)])), (am 11, .inl (cI, 330, .inl va)), (am 12, .inl (cB, 330, .inl pu)), (am 13, .inl (cB, 330, .inl ta)), (am 14, .inl (cB, 330, .inl pl))] : va_W) _ ls hP hD hS dX5_entry_42 rfl

abbrev rm_X5_opens : Room := { frames := 0, cells := 0, slots := 0, locals := 0 }
set_option maxHeartbeats 4000000 in
set_option maxRecDepth 100000 in
theorem c_M_opens (l : Launch) (dC : Nat → ClassId) (dI : Nat → Nat → Nat) (cI cS cB cZ : ClassId) (am : Nat → Nat) (cd st en cf : Int32) (mk : Nat → Int32) (ga : Nat → Nat → Int32) (n : Nat) (hn : n ≤ 240) (hmk : ∀ k, k < n → mk k = ga 1 k) (hki : mKi (ga 1) n) (k : Nat) (hk : k < n) : zI l (dC, dI) vwCl (zTm cI cS cB cZ) zNW yX5_opens wsX5_opens rm_X5_opens [.ref (am 0), .int (nI k)] ([(am 0, .inr (5, [.int cd, .ref (am 1), .ref (am 2), .ref (am 3), .int st, .ref (am 4), .ref (am 5), .ref (am 6), .ref (am 7), .ref (am 8), .ref (am 9), .ref (am 10), .int en, .int cf, .ref (am 11), .ref (am 12), .ref (am 13), .ref (am 14), .ref (am 15)])), (am 4, .inl (cB, 240, .inl mk))] : va_W) (fun r w => (r = if opn (ga 1) k then 1 else 0) ∧ w = ([(am 0, .inr (5, [.int cd, .ref (am 1), .ref (am 2), .ref (am 3), .int st, .ref (am 4), .ref (am 5), .ref (am 6), .ref (am 7), .ref (am 8), .ref (am 9), .ref (am 10), .int en, .int cf, .ref (am 11), .ref (am 12), .ref (am 13), .ref (am 14), .ref (am 15)])), (am 4, .inl (cB, 240, .inl mk))] : va_W)) := by
  refine z_ofI (cc := cX5_opens) (maxL := 2) (rt := .boolean) (Or.inr ⟨rfl, (fun v w h => by rw [h.1]; split <;> decide)⟩) (by decide) rfl (Nat.le_of_ble_eq_true rfl) ?_
  intro p e s m args below meth c A Q ls hI hret
  obtain ⟨hx, hb, hml, hown, hts, hnm, hA, hK, hN, hP, hD, hS, hl⟩ := hI
  have hown : s.vm.findClass RX5 = some m.cls := hown
  have hl : lv_has ls 2 [(0, .ref (am 0)), (1, .int (nI k))] := hl
  have hP : va_P (dC, dI) vwCl (([(am 0, .inr (5, [.int cd, .ref (am 1), .ref (am 2), .ref (am 3), .int st, .ref (am 4), .ref (am 5), .ref (am 6), .ref (am 7), .ref (am 8), .ref (am 9), .ref (am 10), .int en, .int cf, .ref (am 11), .ref (am 12), .ref (am 13), .ref (am 14), .ref (am 15)])), (am 4, .inl (cB, 240, .inl mk))] : va_W) ++ ([] : va_W)) s.heap := hP
  have hD : va_D A (([(am 0, .inr (5, [.int cd, .ref (am 1), .ref (am 2), .ref (am 3), .int st, .ref (am 4), .ref (am 5), .ref (am 6), .ref (am 7), .ref (am 8), .ref (am 9), .ref (am 10), .int en, .int cf, .ref (am 11), .ref (am 12), .ref (am 13), .ref (am 14), .ref (am 15)])), (am 4, .inl (cB, 240, .inl mk))] : va_W) ++ ([] : va_W)) := hD
  have hz : ∀ w ∈ zW, w.before args s = true := fun w h => hts w (List.mem_cons_of_mem _ h)
  refine lv_aload_n hx hb dX5_opens_0 rfl (lv_at hl 0 rfl) ?_
  refine va_get (D := (dC, dI)) (ci := 5) (v := .ref (am 4)) (C := RX5) (T := TX5) (N := 19) hx hb hz hinX5 hown hK hP 0 rfl rfl 5 (by decide) (hz _ zw_483) (fun _ h9 => h9) rfl dX5_opens_1 ?_
  refine lv_iload_n hx hb dX5_opens_4 rfl (lv_at hl 1 rfl) ?_
  refine z_bald (v := ga 1 k) hx hb hK hP 1 2 rfl rfl (k := k) (by omega) (by omega) (hmk k hk) dX5_opens_5 ?_
  refine lv_if_le (tgt := 28) hx hb dX5_opens_6 (by decide) (fun c1 => ?_) (fun c1 => ?_)
  · refine lv_iconst (v := nI 0) hx hb dX5_opens_28 (by decide) ?_
    exact hret s.heap [] _ ([(am 0, .inr (5, [.int cd, .ref (am 1), .ref (am 2), .ref (am 3), .int st, .ref (am 4), .ref (am 5), .ref (am 6), .ref (am 7), .ref (am 8), .ref (am 9), .ref (am 10), .int en, .int cf, .ref (am 11), .ref (am 12), .ref (am 13), .ref (am 14), .ref (am 15)])), (am 4, .inl (cB, 240, .inl mk))] : va_W) _ ls hP hD hS dX5_opens_29 ⟨by rw [if_neg (fun h => h.1 (ki_le hki hk c1))]; decide, rfl⟩
  · refine lv_iload_n hx hb dX5_opens_9 rfl (lv_at hl 1 rfl) ?_
    refine lv_if_eq (tgt := 24) hx hb dX5_opens_10 (by decide) (fun c2 => ?_) (fun c2 => ?_)
    · have c2 : k = 0 := by rw [← nI_0] at c2; exact (nI_eq (by omega) (by omega)).mp c2
      refine lv_iconst (v := nI 1) hx hb dX5_opens_24 (by decide) ?_
      refine lv_goto (tgt := 29) hx hb dX5_opens_25 (by decide) ?_
      exact hret s.heap [] _ ([(am 0, .inr (5, [.int cd, .ref (am 1), .ref (am 2), .ref (am 3), .int st, .ref (am 4), .ref (am 5), .ref (am 6), .ref (am 7), .ref (am 8), .ref (am 9), .ref (am 10), .int en, .int cf, .ref (am 11), .ref (am 12), .ref (am 13), .ref (am 14), .ref (am 15)])), (am 4, .inl (cB, 240, .inl mk))] : va_W) _ ls hP hD hS dX5_opens_29 ⟨by rw [if_pos (show opn (ga 1) k from ⟨ki_nle c1, Or.inl c2⟩)]; decide, rfl⟩
    · have c2 : k ≠ 0 := fun z => c2 (by rw [z]; exact nI_0)
      refine lv_aload_n hx hb dX5_opens_13 rfl (lv_at hl 0 rfl) ?_
      refine va_get (D := (dC, dI)) (ci := 5) (v := .ref (am 4)) (C := RX5) (T := TX5) (N := 19) hx hb hz hinX5 hown hK hP 0 rfl rfl 5 (by decide) (hz _ zw_483) (fun _ h9 => h9) rfl dX5_opens_14 ?_
      refine lv_iload_n hx hb dX5_opens_17 rfl (lv_at hl 1 rfl) ?_
      refine lv_iconst (v := nI 1) hx hb dX5_opens_18 (by decide) ?_
      refine t_isub hx hb dX5_opens_19 (show nI k - nI 1 = nI (k - 1) from (pk_sub (by omega))) ?_
      refine z_bald (v := ga 1 (k - 1)) hx hb hK hP 1 2 rfl rfl (k := (k - 1)) (by omega) (by omega) (hmk (k - 1) (by omega)) dX5_opens_20 ?_
      refine lv_if_ne (tgt := 28) hx hb dX5_opens_21 (by decide) (fun c3 => ?_) (fun c3 => ?_)
      · refine lv_iconst (v := nI 0) hx hb dX5_opens_28 (by decide) ?_
        exact hret s.heap [] _ ([(am 0, .inr (5, [.int cd, .ref (am 1), .ref (am 2), .ref (am 3), .int st, .ref (am 4), .ref (am 5), .ref (am 6), .ref (am 7), .ref (am 8), .ref (am 9), .ref (am 10), .int en, .int cf, .ref (am 11), .ref (am 12), .ref (am 13), .ref (am 14), .ref (am 15)])), (am 4, .inl (cB, 240, .inl mk))] : va_W) _ ls hP hD hS dX5_opens_29 ⟨by rw [if_neg (fun h => by rcases h.2 with z | z; exact c2 z; exact c3 z)]; decide, rfl⟩
      · refine lv_iconst (v := nI 1) hx hb dX5_opens_24 (by decide) ?_
        refine lv_goto (tgt := 29) hx hb dX5_opens_25 (by decide) ?_
        exact hret s.heap [] _ ([(am 0, .inr (5, [.int cd, .ref (am 1), .ref (am 2), .ref (am 3), .int st, .ref (am 4), .ref (am 5), .ref (am 6), .ref (am 7), .ref (am 8), .ref (am 9), .ref (am 10), .int en, .int cf, .ref (am 11), .ref (am 12), .ref (am 13), .ref (am 14), .ref (am 15)])), (am 4, .inl (cB, 240, .inl mk))] : va_W) _ ls hP hD hS dX5_opens_29 ⟨by rw [if_pos (show opn (ga 1) k from ⟨ki_nle c1, Or.inr c3⟩)]; decide, rfl⟩

abbrev rm_X5_hunks : Room := { frames := 1, cells := 0, slots := 0, locals := 21 }
set_option maxHeartbeats 4000000 in
set_option maxRecDepth 100000 in
theorem c_M_hunks (l : Launch) (dC : Nat → ClassId) (dI : Nat → Nat → Nat) (cI cS cB cZ : ClassId) (am : Nat → Nat) (cd st en cf : Int32) (mk : Nat → Int32) (ga : Nat → Nat → Int32) (n : Nat) (hn : n ≤ 240) (hmk : ∀ k, k < n → mk k = ga 1 k) (hki : mKi (ga 1) n)  : zI l (dC, dI) vwCl (zTm cI cS cB cZ) zNW yX5_hunks wsX5_hunks rm_X5_hunks [.ref (am 0)] ([(am 0, .inr (5, [.int cd, .ref (am 1), .ref (am 2), .ref (am 3), .int (nI n), .ref (am 4), .ref (am 5), .ref (am 6), .ref (am 7), .ref (am 8), .ref (am 9), .ref (am 10), .int en, .int cf, .ref (am 11), .ref (am 12), .ref (am 13), .ref (am 14), .ref (am 15)])), (am 4, .inl (cB, 240, .inl mk))] : va_W) (fun z w => z = nI (hnk (ga 1) n) ∧ w = ([(am 0, .inr (5, [.int (nI 0), .ref (am 1), .ref (am 2), .ref (am 3), .int (nI n), .ref (am 4), .ref (am 5), .ref (am 6), .ref (am 7), .ref (am 8), .ref (am 9), .ref (am 10), .int en, .int cf, .ref (am 11), .ref (am 12), .ref (am 13), .ref (am 14), .ref (am 15)])), (am 4, .inl (cB, 240, .inl mk))] : va_W)) := by
  refine z_ofI (cc := cX5_hunks) (maxL := 3) (Or.inl rfl) (by decide) rfl (Nat.le_of_ble_eq_true rfl) ?_
  intro p e s m args below meth c A Q ls hI hret
  obtain ⟨hx, hb, hml, hown, hts, hnm, hA, hK, hN, hP, hD, hS, hl⟩ := hI
  have hown : s.vm.findClass RX5 = some m.cls := hown
  have hl : lv_has ls 3 [(0, .ref (am 0))] := hl
  have hP : va_P (dC, dI) vwCl (([(am 0, .inr (5, [.int cd, .ref (am 1), .ref (am 2), .ref (am 3), .int (nI n), .ref (am 4), .ref (am 5), .ref (am 6), .ref (am 7), .ref (am 8), .ref (am 9), .ref (am 10), .int en, .int cf, .ref (am 11), .ref (am 12), .ref (am 13), .ref (am 14), .ref (am 15)])), (am 4, .inl (cB, 240, .inl mk))] : va_W) ++ ([] : va_W)) s.heap := hP
  have hD : va_D A (([(am 0, .inr (5, [.int cd, .ref (am 1), .ref (am 2), .ref (am 3), .int (nI n), .ref (am 4), .ref (am 5), .ref (am 6), .ref (am 7), .ref (am 8), .ref (am 9), .ref (am 10), .int en, .int cf, .ref (am 11), .ref (am 12), .ref (am 13), .ref (am 14), .ref (am 15)])), (am 4, .inl (cB, 240, .inl mk))] : va_W) ++ ([] : va_W)) := hD
  have hz : ∀ w ∈ zW, w.before args s = true := fun w h => hts w (List.mem_cons_of_mem _ h)
  refine lv_aload_n hx hb dX5_hunks_0 rfl (lv_at hl 0 rfl) ?_
  refine lv_iconst (v := nI 0) hx hb dX5_hunks_1 (by decide) ?_
  refine va_put (D := (dC, dI)) (ci := 5) (v := .int (nI 0)) (ty := .int) (C := RX5) (T := TX5) (N := 19) hx hb hz hinX5 tyX5 tyX5_ok nmX5 hown hK hP hD hS 0 rfl rfl 0 (by decide) (hz _ zw_478) (fun _ h9 => h9) rfl (by decide +kernel) rfl rfl (Nat.le_of_ble_eq_true rfl) dX5_hunks_2 (fun H locs hP hD hS => ?_)
  have hP : va_P (dC, dI) vwCl (([(am 0, .inr (5, [.int (nI 0), .ref (am 1), .ref (am 2), .ref (am 3), .int (nI n), .ref (am 4), .ref (am 5), .ref (am 6), .ref (am 7), .ref (am 8), .ref (am 9), .ref (am 10), .int en, .int cf, .ref (am 11), .ref (am 12), .ref (am 13), .ref (am 14), .ref (am 15)])), (am 4, .inl (cB, 240, .inl mk))] : va_W) ++ ([] : va_W)) H := hP
  have hD : va_D A (([(am 0, .inr (5, [.int (nI 0), .ref (am 1), .ref (am 2), .ref (am 3), .int (nI n), .ref (am 4), .ref (am 5), .ref (am 6), .ref (am 7), .ref (am 8), .ref (am 9), .ref (am 10), .int en, .int cf, .ref (am 11), .ref (am 12), .ref (am 13), .ref (am 14), .ref (am 15)])), (am 4, .inl (cB, 240, .inl mk))] : va_W) ++ ([] : va_W)) := hD
  refine lv_aload_n hx hb dX5_hunks_5 rfl (lv_at hl 0 rfl) ?_
  refine va_get (D := (dC, dI)) (ci := 5) (v := .int (nI n)) (C := RX5) (T := TX5) (N := 19) hx hb hz hinX5 hown hK hP 0 rfl rfl 4 (by decide) (hz _ zw_482) (fun _ h9 => h9) rfl dX5_hunks_6 ?_
  refine lv_if_ge (tgt := 16) hx hb dX5_hunks_9 (by decide) (fun c1 => ?_) (fun c1 => ?_)
  · refine lv_iconst (v := nI 0) hx hb dX5_hunks_16 (by decide) ?_
    refine lv_istore_n (lv' := [(1, .int (nI 0)), (0, .ref (am 0))]) hx hb dX5_hunks_17 rfl hl (by decide) rfl (fun ls hl => ?_)
    refine lv_iconst (v := nI 0) hx hb dX5_hunks_18 (by decide) ?_
    refine lv_istore_n (lv' := [(2, .int (nI 0)), (1, .int (nI 0)), (0, .ref (am 0))]) hx hb dX5_hunks_19 rfl hl (by decide) rfl (fun ls hl => ?_)
    have L1 : ∀ (d : Nat) (k : Nat) (H : Heap) (locs : List Loc) (ls : Array Slot), k + d = n → va_P (dC, dI) vwCl (([(am 0, .inr (5, [.int (nI 0), .ref (am 1), .ref (am 2), .ref (am 3), .int (nI n), .ref (am 4), .ref (am 5), .ref (am 6), .ref (am 7), .ref (am 8), .ref (am 9), .ref (am 10), .int en, .int cf, .ref (am 11), .ref (am 12), .ref (am 13), .ref (am 14), .ref (am 15)])), (am 4, .inl (cB, 240, .inl mk))] : va_W) ++ ([] : va_W)) H → va_D A (([(am 0, .inr (5, [.int (nI 0), .ref (am 1), .ref (am 2), .ref (am 3), .int (nI n), .ref (am 4), .ref (am 5), .ref (am 6), .ref (am 7), .ref (am 8), .ref (am 9), .ref (am 10), .int en, .int cf, .ref (am 11), .ref (am 12), .ref (am 13), .ref (am 14), .ref (am 15)])), (am 4, .inl (cB, 240, .inl mk))] : va_W) ++ ([] : va_W)) → va_S A s.heap H locs → lv_has ls 3 [(2, .int (nI k)), (1, .int (nI (hnk (ga 1) k))), (0, .ref (am 0))] → W p l e rm_X5_hunks s m args below meth c H locs 0 0 Q (F0 m 20 ls []) := by
      intro d
      induction d with
      | zero =>
        intro k H locs ls hk hP hD hS hl
        have hk : k = n := hk
        refine lv_iload_n hx hb dX5_hunks_20 rfl (lv_at hl 0 rfl) ?_
        refine lv_aload_n hx hb dX5_hunks_21 rfl (lv_at hl 2 rfl) ?_
        refine va_get (D := (dC, dI)) (ci := 5) (v := .int (nI n)) (C := RX5) (T := TX5) (N := 19) hx hb hz hinX5 hown hK hP 0 rfl rfl 4 (by decide) (hz _ zw_482) (fun _ h9 => h9) rfl dX5_hunks_22 ?_
        refine lv_icmp_ge (tgt := 50) hx hb dX5_hunks_25 (by decide) (fun bb1 => ?_) (fun bb1 => ?_)
        · have bb1 : n ≤ k := (nI_leI (by omega) (by omega)).mp bb1
          refine lv_iload_n hx hb dX5_hunks_50 rfl (lv_at hl 1 rfl) ?_
          exact hret H locs _ ([(am 0, .inr (5, [.int (nI 0), .ref (am 1), .ref (am 2), .ref (am 3), .int (nI n), .ref (am 4), .ref (am 5), .ref (am 6), .ref (am 7), .ref (am 8), .ref (am 9), .ref (am 10), .int en, .int cf, .ref (am 11), .ref (am 12), .ref (am 13), .ref (am 14), .ref (am 15)])), (am 4, .inl (cB, 240, .inl mk))] : va_W) _ ls hP hD hS dX5_hunks_51 ⟨by rw [hk], rfl⟩
        · have bb1 : ¬ (n ≤ k) := fun h => bb1 ((nI_leI (by omega) (by omega)).mpr h)
          omega
      | succ d ih =>
        intro k H locs ls hk hP hD hS hl
        have hb1 := hnk_le (K := ga 1) k
        refine lv_iload_n hx hb dX5_hunks_20 rfl (lv_at hl 0 rfl) ?_
        refine lv_aload_n hx hb dX5_hunks_21 rfl (lv_at hl 2 rfl) ?_
        refine va_get (D := (dC, dI)) (ci := 5) (v := .int (nI n)) (C := RX5) (T := TX5) (N := 19) hx hb hz hinX5 hown hK hP 0 rfl rfl 4 (by decide) (hz _ zw_482) (fun _ h9 => h9) rfl dX5_hunks_22 ?_
        refine lv_icmp_ge (tgt := 50) hx hb dX5_hunks_25 (by decide) (fun bb2 => ?_) (fun bb2 => ?_)
        · have bb2 : n ≤ k := (nI_leI (by omega) (by omega)).mp bb2
          omega
        · have bb2 : ¬ (n ≤ k) := fun h => bb2 ((nI_leI (by omega) (by omega)).mpr h)
          refine lv_iload_n hx hb dX5_hunks_28 rfl (lv_at hl 1 rfl) ?_
          refine lv_aload_n hx hb dX5_hunks_29 rfl (lv_at hl 2 rfl) ?_
          refine lv_iload_n hx hb dX5_hunks_30 rfl (lv_at hl 0 rfl) ?_
          refine z_ciQ (wr := ([] : va_W)) (cx := ([(am 0, .inr (5, [.int (nI 0), .ref (am 1), .ref (am 2), .ref (am 3), .int (nI n), .ref (am 4), .ref (am 5), .ref (am 6), .ref (am 7), .ref (am 8), .ref (am 9), .ref (am 10), .int en, .int cf, .ref (am 11), .ref (am 12), .ref (am 13), .ref (am 14), .ref (am 15)])), (am 4, .inl (cB, 240, .inl mk))] : va_W)) hP hD hS hA [0, 1] [] rfl rfl (by decide) (by decide) (va_runV (As := [.int (nI k)]) (rest := [.int (nI (hnk (ga 1) k))]) ⟨hx, hb, hml, hown, hz⟩ (c_M_opens l dC dI cI cS cB cZ am (nI 0) (nI n) en cf mk ga n hn hmk hki k (by omega) H.size) (cwV 1 hz (zgV zw_593 zw_595 zw_16 zw_27 zw_596) rfl rfl rfl (by decide +kernel) ⟨Nat.le_of_ble_eq_true rfl, Nat.le_of_ble_eq_true rfl⟩) ⟨zP_blind, z_recv hK hP (ci := 5) rfl rfl (q0 := 0) rfl, z_preQ hK hN hP hD [0, 1] rfl (by decide)⟩ rfl rfl hl.1 rfl (lv_room (Nat.le_of_ble_eq_true rfl)) dX5_hunks_31 ⟨Nat.le_of_ble_eq_true rfl, Nat.le_of_ble_eq_true rfl⟩) (fun vc2 w1 H locs hw hP hD hS => ?_)
          obtain ⟨hc2, hw⟩ := hw
          subst hw
          have hP : va_P (dC, dI) vwCl (([(am 0, .inr (5, [.int (nI 0), .ref (am 1), .ref (am 2), .ref (am 3), .int (nI n), .ref (am 4), .ref (am 5), .ref (am 6), .ref (am 7), .ref (am 8), .ref (am 9), .ref (am 10), .int en, .int cf, .ref (am 11), .ref (am 12), .ref (am 13), .ref (am 14), .ref (am 15)])), (am 4, .inl (cB, 240, .inl mk))] : va_W) ++ ([] : va_W)) H := hP
          have hD : va_D A (([(am 0, .inr (5, [.int (nI 0), .ref (am 1), .ref (am 2), .ref (am 3), .int (nI n), .ref (am 4), .ref (am 5), .ref (am 6), .ref (am 7), .ref (am 8), .ref (am 9), .ref (am 10), .int en, .int cf, .ref (am 11), .ref (am 12), .ref (am 13), .ref (am 14), .ref (am 15)])), (am 4, .inl (cB, 240, .inl mk))] : va_W) ++ ([] : va_W)) := hD
          refine lv_if_eq (tgt := 41) hx hb dX5_hunks_34 (by decide) (fun c2 => ?_) (fun c2 => ?_)
          · have hop : ¬ opn (ga 1) k := fun z => by rw [hc2, if_pos z] at c2; exact absurd c2 (by decide)
            refine lv_iconst (v := nI 0) hx hb dX5_hunks_41 (by decide) ?_
            refine t_iadd hx hb dX5_hunks_42 (show nI (hnk (ga 1) k) + nI 0 = nI (hnk (ga 1) k) from (nI_add _ _)) ?_
            refine lv_istore_n (lv' := [(1, .int (nI (hnk (ga 1) k))), (2, .int (nI k)), (0, .ref (am 0))]) hx hb dX5_hunks_43 rfl hl (by decide) rfl (fun ls hl => ?_)
            refine lv_iinc (v := nI (k + 1)) (lv' := [(2, .int (nI (k + 1))), (1, .int (nI (hnk (ga 1) k))), (0, .ref (am 0))]) hx hb dX5_hunks_44 hl (k := 1) rfl (show nI k + 1 = nI (k + 1) from nI_1 _) (by decide) rfl (fun ls hl => ?_)
            refine lv_goto (tgt := 20) hx hb dX5_hunks_47 (by decide) ?_
            exact ih (k + 1) _ _ ls (by omega) hP hD hS (by rw [hnk_no hop]; exact (lv_sub hl [0, 1, 2] rfl))
          · have hop : opn (ga 1) k := by by_cases z : opn (ga 1) k; exact z; exact absurd (by rw [hc2, if_neg z]) c2
            refine lv_iconst (v := nI 1) hx hb dX5_hunks_37 (by decide) ?_
            refine lv_goto (tgt := 42) hx hb dX5_hunks_38 (by decide) ?_
            refine t_iadd hx hb dX5_hunks_42 (show nI (hnk (ga 1) k) + nI 1 = nI (hnk (ga 1) k + 1) from (nI_add _ _)) ?_
            refine lv_istore_n (lv' := [(1, .int (nI (hnk (ga 1) k + 1))), (2, .int (nI k)), (0, .ref (am 0))]) hx hb dX5_hunks_43 rfl hl (by decide) rfl (fun ls hl => ?_)
            refine lv_iinc (v := nI (k + 1)) (lv' := [(2, .int (nI (k + 1))), (1, .int (nI (hnk (ga 1) k + 1))), (0, .ref (am 0))]) hx hb dX5_hunks_44 hl (k := 1) rfl (show nI k + 1 = nI (k + 1) from nI_1 _) (by decide) rfl (fun ls hl => ?_)
            refine lv_goto (tgt := 20) hx hb dX5_hunks_47 (by decide) ?_
            exact ih (k + 1) _ _ ls (by omega) hP hD hS (by rw [hnk_yes hop]; exact (lv_sub hl [0, 1, 2] rfl))
    exact L1 n 0 _ _ ls (by omega) hP hD hS (lv_sub hl [0, 1, 2] rfl)
  · exact absurd (Int32.not_lt.mp (nI_pos (by omega))) c1

set_option maxHeartbeats 4000000 in
set_option maxRecDepth 100000 in
theorem c_M_hunks0 (l : Launch) (dC : Nat → ClassId) (dI : Nat → Nat → Nat) (cI cS cB cZ : ClassId) (am : Nat → Nat) (cd st en cf : Int32) (mk : Nat → Int32)  : zI l (dC, dI) vwCl (zTm cI cS cB cZ) zNW yX5_hunks wsX5_hunks rm_X5_hunks [.ref (am 0)] ([(am 0, .inr (5, [.int cd, .ref (am 1), .ref (am 2), .ref (am 3), .int (-1), .ref (am 4), .ref (am 5), .ref (am 6), .ref (am 7), .ref (am 8), .ref (am 9), .ref (am 10), .int en, .int cf, .ref (am 11), .ref (am 12), .ref (am 13), .ref (am 14), .ref (am 15)])), (am 4, .inl (cB, 240, .inl mk))] : va_W) (fun z w => z = -1 ∧ w = ([(am 0, .inr (5, [.int (nI 0), .ref (am 1), .ref (am 2), .ref (am 3), .int (-1), .ref (am 4), .ref (am 5), .ref (am 6), .ref (am 7), .ref (am 8), .ref (am 9), .ref (am 10), .int en, .int cf, .ref (am 11), .ref (am 12), .ref (am 13), .ref (am 14), .ref (am 15)])), (am 4, .inl (cB, 240, .inl mk))] : va_W)) := by
  refine z_ofI (cc := cX5_hunks) (maxL := 3) (Or.inl rfl) (by decide) rfl (Nat.le_of_ble_eq_true rfl) ?_
  intro p e s m args below meth c A Q ls hI hret
  obtain ⟨hx, hb, hml, hown, hts, hnm, hA, hK, hN, hP, hD, hS, hl⟩ := hI
  have hown : s.vm.findClass RX5 = some m.cls := hown
  have hl : lv_has ls 3 [(0, .ref (am 0))] := hl
  have hP : va_P (dC, dI) vwCl (([(am 0, .inr (5, [.int cd, .ref (am 1), .ref (am 2), .ref (am 3), .int (-1), .ref (am 4), .ref (am 5), .ref (am 6), .ref (am 7), .ref (am 8), .ref (am 9), .ref (am 10), .int en, .int cf, .ref (am 11), .ref (am 12), .ref (am 13), .ref (am 14), .ref (am 15)])), (am 4, .inl (cB, 240, .inl mk))] : va_W) ++ ([] : va_W)) s.heap := hP
  have hD : va_D A (([(am 0, .inr (5, [.int cd, .ref (am 1), .ref (am 2), .ref (am 3), .int (-1), .ref (am 4), .ref (am 5), .ref (am 6), .ref (am 7), .ref (am 8), .ref (am 9), .ref (am 10), .int en, .int cf, .ref (am 11), .ref (am 12), .ref (am 13), .ref (am 14), .ref (am 15)])), (am 4, .inl (cB, 240, .inl mk))] : va_W) ++ ([] : va_W)) := hD
  have hz : ∀ w ∈ zW, w.before args s = true := fun w h => hts w (List.mem_cons_of_mem _ h)
  refine lv_aload_n hx hb dX5_hunks_0 rfl (lv_at hl 0 rfl) ?_
  refine lv_iconst (v := nI 0) hx hb dX5_hunks_1 (by decide) ?_
  refine va_put (D := (dC, dI)) (ci := 5) (v := .int (nI 0)) (ty := .int) (C := RX5) (T := TX5) (N := 19) hx hb hz hinX5 tyX5 tyX5_ok nmX5 hown hK hP hD hS 0 rfl rfl 0 (by decide) (hz _ zw_478) (fun _ h9 => h9) rfl (by decide +kernel) rfl rfl (Nat.le_of_ble_eq_true rfl) dX5_hunks_2 (fun H locs hP hD hS => ?_)
  have hP : va_P (dC, dI) vwCl (([(am 0, .inr (5, [.int (nI 0), .ref (am 1), .ref (am 2), .ref (am 3), .int (-1), .ref (am 4), .ref (am 5), .ref (am 6), .ref (am 7), .ref (am 8), .ref (am 9), .ref (am 10), .int en, .int cf, .ref (am 11), .ref (am 12), .ref (am 13), .ref (am 14), .ref (am 15)])), (am 4, .inl (cB, 240, .inl mk))] : va_W) ++ ([] : va_W)) H := hP
  have hD : va_D A (([(am 0, .inr (5, [.int (nI 0), .ref (am 1), .ref (am 2), .ref (am 3), .int (-1), .ref (am 4), .ref (am 5), .ref (am 6), .ref (am 7), .ref (am 8), .ref (am 9), .ref (am 10), .int en, .int cf, .ref (am 11), .ref (am 12), .ref (am 13), .ref (am 14), .ref (am 15)])), (am 4, .inl (cB, 240, .inl mk))] : va_W) ++ ([] : va_W)) := hD
  refine lv_aload_n hx hb dX5_hunks_5 rfl (lv_at hl 0 rfl) ?_
  refine va_get (D := (dC, dI)) (ci := 5) (v := .int (-1)) (C := RX5) (T := TX5) (N := 19) hx hb hz hinX5 hown hK hP 0 rfl rfl 4 (by decide) (hz _ zw_482) (fun _ h9 => h9) rfl dX5_hunks_6 ?_
  refine lv_if_ge (tgt := 16) hx hb dX5_hunks_9 (by decide) (fun ck1 => ?_) (fun ck1 => ?_)
  · exact absurd ck1 (by decide)
  · refine lv_iconst (v := (-1)) hx hb dX5_hunks_12 (by decide) ?_
    refine lv_goto (tgt := 17) hx hb dX5_hunks_13 (by decide) ?_
    refine lv_istore_n (lv' := [(1, .int (-1)), (0, .ref (am 0))]) hx hb dX5_hunks_17 rfl hl (by decide) rfl (fun ls hl => ?_)
    refine lv_iconst (v := nI 0) hx hb dX5_hunks_18 (by decide) ?_
    refine lv_istore_n (lv' := [(2, .int (nI 0)), (1, .int (-1)), (0, .ref (am 0))]) hx hb dX5_hunks_19 rfl hl (by decide) rfl (fun ls hl => ?_)
    refine lv_iload_n hx hb dX5_hunks_20 rfl (lv_at hl 0 rfl) ?_
    refine lv_aload_n hx hb dX5_hunks_21 rfl (lv_at hl 2 rfl) ?_
    refine va_get (D := (dC, dI)) (ci := 5) (v := .int (-1)) (C := RX5) (T := TX5) (N := 19) hx hb hz hinX5 hown hK hP 0 rfl rfl 4 (by decide) (hz _ zw_482) (fun _ h9 => h9) rfl dX5_hunks_22 ?_
    refine lv_icmp_ge (tgt := 50) hx hb dX5_hunks_25 (by decide) (fun ck2 => ?_) (fun ck2 => ?_)
    · refine lv_iload_n hx hb dX5_hunks_50 rfl (lv_at hl 1 rfl) ?_
      exact hret H locs _ ([(am 0, .inr (5, [.int (nI 0), .ref (am 1), .ref (am 2), .ref (am 3), .int (-1), .ref (am 4), .ref (am 5), .ref (am 6), .ref (am 7), .ref (am 8), .ref (am 9), .ref (am 10), .int en, .int cf, .ref (am 11), .ref (am 12), .ref (am 13), .ref (am 14), .ref (am 15)])), (am 4, .inl (cB, 240, .inl mk))] : va_W) _ ls hP hD hS dX5_hunks_51 ⟨rfl, rfl⟩
    · exact absurd ck2 (by decide)
