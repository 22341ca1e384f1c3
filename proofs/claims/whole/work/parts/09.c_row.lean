abbrev rm_X2_init : Room := { frames := 1, cells := 1, slots := 120, locals := 20 }
set_option maxHeartbeats 4000000 in
set_option maxRecDepth 100000 in
theorem c_Row_init (l : Launch) (dC : Nat → ClassId) (dI : Nat → Nat → Nat) (cI cJ cR : ClassId) (h : Nat) : zV l (dC, dI) vwCl (zT cI cJ cR) zNW yX2_init wsX2_init rm_X2_init [.ref h] ([(h, .inr (2, [.null, .int 0]))] : va_W) (fun w => ∃ q : Nat, w = [rO h q 0, rF cI q (fun _ => 0)]) := by
  refine z_ofV (cc := cX2_init) (maxL := 1) (by decide) rfl (Nat.le_of_ble_eq_true rfl) ?_
  intro p e s m args below meth c A Q ls hI hret
  obtain ⟨hx, hb, hml, hown, hts, hnm, hA, hK, hN, hP, hD, hS, hl⟩ := hI
  have hown : s.vm.findClass RX2 = some m.cls := hown
  have hl : lv_has ls 1 [(0, .ref h)] := hl
  have hP : va_P (dC, dI) vwCl (([(h, .inr (2, [.null, .int 0]))] : va_W) ++ ([] : va_W)) s.heap := hP
  have hD : va_D A (([(h, .inr (2, [.null, .int 0]))] : va_W) ++ ([] : va_W)) := hD
  have hz : ∀ w ∈ zW, w.before args s = true := fun w h => hts w (List.mem_cons_of_mem _ h)
  have hin : meth.name = "<init>" := hnm
  refine lv_aload_n hx hb dX2_init_0 rfl (lv_at hl 0 rfl) ?_
  refine W.objInit hx hb hown (hz _ zw_49) (hz _ zw_41) (hz _ zw_42) rfl (by rw [hml]; exact hl.1) rfl dX2_init_1 (Nat.le_of_ble_eq_true rfl) (Nat.le_of_ble_eq_true rfl) ?_
  refine W.eq (g2 := F0 m 4 ls []) rfl ?_
  refine lv_aload_n hx hb dX2_init_4 rfl (lv_at hl 0 rfl) ?_
  refine lv_bipush (v := nI 120) hx hb dX2_init_5 (by decide) ?_
  refine z_newi hx hb (hz _ zw_65) hK hP hD hS hA 120 0 rfl (by decide) (Nat.le_of_ble_eq_true rfl) (Nat.le_of_ble_eq_true rfl) dX2_init_7 (fun q1 H hP hD hS => ?_)
  refine W.widen (k := 1) (n := 120) (by decide) (by decide) ?_
  have hP : va_P (dC, dI) vwCl (([(h, .inr (2, [.null, .int 0])), (q1, .inl (cI, 120, .inl (fun _ => 0)))] : va_W) ++ ([] : va_W)) H := hP
  have hD : va_D A (([(h, .inr (2, [.null, .int 0])), (q1, .inl (cI, 120, .inl (fun _ => 0)))] : va_W) ++ ([] : va_W)) := hD
  refine va_putF (D := (dC, dI)) (ci := 2) (v := .ref q1) (ty := .array .int) (C := RX2) (T := TX2) (N := 2) hx hb hz hinX2 tyX2 tyX2_ok nmX2 hown hK hP hD hS 0 rfl rfl 0 (by decide) (hz _ zw_50) (fun _ h9 => h9) rfl hin rfl (by decide +kernel) rfl rfl (Nat.le_of_ble_eq_true rfl) dX2_init_9 (fun H locs hP hD hS => ?_)
  have hP : va_P (dC, dI) vwCl (([(h, .inr (2, [.ref q1, .int 0])), (q1, .inl (cI, 120, .inl (fun _ => 0)))] : va_W) ++ ([] : va_W)) H := hP
  have hD : va_D A (([(h, .inr (2, [.ref q1, .int 0])), (q1, .inl (cI, 120, .inl (fun _ => 0)))] : va_W) ++ ([] : va_W)) := hD
  refine lv_aload_n hx hb dX2_init_12 rfl (lv_at hl 0 rfl) ?_
  refine lv_iconst (v := nI 0) hx hb dX2_init_13 (by decide) ?_
  refine va_put (D := (dC, dI)) (ci := 2) (v := .int (nI 0)) (ty := .int) (C := RX2) (T := TX2) (N := 2) hx hb hz hinX2 tyX2 tyX2_ok nmX2 hown hK hP hD hS 0 rfl rfl 1 (by decide) (hz _ zw_55) (fun _ h9 => h9) rfl (by decide +kernel) rfl rfl (Nat.le_of_ble_eq_true rfl) dX2_init_14 (fun H locs hP hD hS => ?_)
  have hP : va_P (dC, dI) vwCl (([(h, .inr (2, [.ref q1, .int (nI 0)])), (q1, .inl (cI, 120, .inl (fun _ => 0)))] : va_W) ++ ([] : va_W)) H := hP
  have hD : va_D A (([(h, .inr (2, [.ref q1, .int (nI 0)])), (q1, .inl (cI, 120, .inl (fun _ => 0)))] : va_W) ++ ([] : va_W)) := hD
  exact hret H locs ([(h, .inr (2, [.ref q1, .int (nI 0)])), (q1, .inl (cI, 120, .inl (fun _ => 0)))] : va_W) _ ls hP hD hS dX2_init_17 ⟨q1, rfl⟩

abbrev rm_X2_empty : Room := { frames := 0, cells := 0, slots := 0, locals := 0 }
set_option maxHeartbeats 4000000 in
set_option maxRecDepth 100000 in
theorem c_Row_empty (l : Launch) (dC : Nat → ClassId) (dI : Nat → Nat → Nat) (cI cJ cR : ClassId) (Rw : va_W) (j h q n : Nat) (f : Nat → Int32) (hj : j + 1 < Rw.length) : zV l (dC, dI) vwCl (zT cI cJ cR) zNW yX2_empty wsX2_empty rm_X2_empty [.ref h] (([] : va_W) ++ rA cI Rw j h q n f) (fun w => w = ([] : va_W) ++ rA cI Rw j h q 0 f) := by
  refine z_ofV (cc := cX2_empty) (maxL := 1) (by decide) rfl (Nat.le_of_ble_eq_true rfl) ?_
  intro p e s m args below meth c A Q ls hI hret
  obtain ⟨hx, hb, hml, hown, hts, hnm, hA, hK, hN, hP, hD, hS, hl⟩ := hI
  have hown : s.vm.findClass RX2 = some m.cls := hown
  have hl : lv_has ls 1 [(0, .ref h)] := hl
  have hP : va_P (dC, dI) vwCl (([] : va_W) ++ rA cI Rw j h q n f) s.heap := hP
  have hD : va_D A (([] : va_W) ++ rA cI Rw j h q n f) := hD
  have hz : ∀ w ∈ zW, w.before args s = true := fun w h => hts w (List.mem_cons_of_mem _ h)
  refine lv_aload_n hx hb dX2_empty_0 rfl (lv_at hl 0 rfl) ?_
  refine lv_iconst (v := nI 0) hx hb dX2_empty_1 (by decide) ?_
  refine va_put (D := (dC, dI)) (ci := 2) (v := .int (nI 0)) (ty := .int) (C := RX2) (T := TX2) (N := 2) hx hb hz hinX2 tyX2 tyX2_ok nmX2 hown hK hP hD hS _ (z_right (rA_o hj)) rfl 1 (by decide) (hz _ zw_55) (fun _ h9 => h9) rfl (by decide +kernel) rfl rfl (Nat.le_of_ble_eq_true rfl) dX2_empty_2 (fun H locs hP hD hS => ?_)
  rw [z_setR] at hP hD
  have hP : va_P (dC, dI) vwCl (([] : va_W) ++ (rA cI Rw j h q n f).set j (rO h q 0)) H := hP
  have hD : va_D A (([] : va_W) ++ (rA cI Rw j h q n f).set j (rO h q 0)) := hD
  rw [rA_seto] at hP hD
  exact hret H locs (([] : va_W) ++ rA cI Rw j h q 0 f) _ ls hP hD hS dX2_empty_5 rfl

abbrev rm_X2_append : Room := { frames := 0, cells := 0, slots := 0, locals := 0 }
set_option maxHeartbeats 4000000 in
set_option maxRecDepth 100000 in
theorem c_Row_append (l : Launch) (dC : Nat → ClassId) (dI : Nat → Nat → Nat) (cI cJ cR : ClassId) (Rw : va_W) (j h q n : Nat) (f : Nat → Int32) (v : Int32) (hj : j + 1 < Rw.length) (hn : n ≤ 120) : zV l (dC, dI) vwCl (zT cI cJ cR) zNW yX2_append wsX2_append rm_X2_append [.ref h, .int v] (([] : va_W) ++ rA cI Rw j h q n f) (fun w => w = ([] : va_W) ++ rA cI Rw j h q (if n < 120 then n + 1 else n) (if n < 120 then upd f n v else f)) := by
  refine z_ofV (cc := cX2_append) (maxL := 2) (by decide) rfl (Nat.le_of_ble_eq_true rfl) ?_
  intro p e s m args below meth c A Q ls hI hret
  obtain ⟨hx, hb, hml, hown, hts, hnm, hA, hK, hN, hP, hD, hS, hl⟩ := hI
  have hown : s.vm.findClass RX2 = some m.cls := hown
  have hl : lv_has ls 2 [(0, .ref h), (1, .int v)] := hl
  have hP : va_P (dC, dI) vwCl (([] : va_W) ++ rA cI Rw j h q n f) s.heap := hP
  have hD : va_D A (([] : va_W) ++ rA cI Rw j h q n f) := hD
  have hz : ∀ w ∈ zW, w.before args s = true := fun w h => hts w (List.mem_cons_of_mem _ h)
  refine lv_aload_n hx hb dX2_append_0 rfl (lv_at hl 0 rfl) ?_
  refine va_get (D := (dC, dI)) (ci := 2) (v := .int (nI n)) (C := RX2) (T := TX2) (N := 2) hx hb hz hinX2 hown hK hP _ (z_right (rA_o hj)) rfl 1 (by decide) (hz _ zw_55) (fun _ h9 => h9) rfl dX2_append_1 ?_
  refine lv_bipush (v := nI 120) hx hb dX2_append_4 (by decide) ?_
  refine lv_icmp_ge (tgt := 29) hx hb dX2_append_6 (by decide) (fun bb1 => ?_) (fun bb1 => ?_)
  · have bb1 : 120 ≤ n := (nI_leI (by omega) (by omega)).mp bb1
    exact hret s.heap [] (([] : va_W) ++ rA cI Rw j h q n f) _ ls hP hD hS dX2_append_29 (by rw [if_neg (by omega), if_neg (by omega)])
  · have bb1 : ¬ (120 ≤ n) := fun h => bb1 ((nI_leI (by omega) (by omega)).mpr h)
    refine lv_aload_n hx hb dX2_append_9 rfl (lv_at hl 0 rfl) ?_
    refine va_get (D := (dC, dI)) (ci := 2) (v := .ref q) (C := RX2) (T := TX2) (N := 2) hx hb hz hinX2 hown hK hP _ (z_right (rA_o hj)) rfl 0 (by decide) (hz _ zw_50) (fun _ h9 => h9) rfl dX2_append_10 ?_
    refine lv_aload_n hx hb dX2_append_13 rfl (lv_at hl 0 rfl) ?_
    refine va_get (D := (dC, dI)) (ci := 2) (v := .int (nI n)) (C := RX2) (T := TX2) (N := 2) hx hb hz hinX2 hown hK hP _ (z_right (rA_o hj)) rfl 1 (by decide) (hz _ zw_55) (fun _ h9 => h9) rfl dX2_append_14 ?_
    refine lv_iload_n hx hb dX2_append_17 rfl (lv_at hl 1 rfl) ?_
    refine z_iast hx hb hK hP hD hS _ 0 (z_right (rA_a hj)) rfl (k := n) (by omega) (by omega) dX2_append_18 (fun H locs hP hD hS => ?_)
    rw [z_setR, rA_seta] at hP hD
    have hP : va_P (dC, dI) vwCl (([] : va_W) ++ rA cI Rw j h q n (upd f n v)) H := hP
    have hD : va_D A (([] : va_W) ++ rA cI Rw j h q n (upd f n v)) := hD
    refine lv_aload_n hx hb dX2_append_19 rfl (lv_at hl 0 rfl) ?_
    refine lv_dup hx hb dX2_append_20 rfl ?_
    refine va_get (D := (dC, dI)) (ci := 2) (v := .int (nI n)) (C := RX2) (T := TX2) (N := 2) hx hb hz hinX2 hown hK hP _ (z_right (rA_o hj)) rfl 1 (by decide) (hz _ zw_55) (fun _ h9 => h9) rfl dX2_append_21 ?_
    refine lv_iconst (v := nI 1) hx hb dX2_append_24 (by decide) ?_
    refine t_iadd hx hb dX2_append_25 (show nI n + nI 1 = nI (n + 1) from (nI_add _ _)) ?_
    refine va_put (D := (dC, dI)) (ci := 2) (v := .int (nI (n + 1))) (ty := .int) (C := RX2) (T := TX2) (N := 2) hx hb hz hinX2 tyX2 tyX2_ok nmX2 hown hK hP hD hS _ (z_right (rA_o hj)) rfl 1 (by decide) (hz _ zw_55) (fun _ h9 => h9) rfl (by decide +kernel) rfl rfl (Nat.le_of_ble_eq_true rfl) dX2_append_26 (fun H locs hP hD hS => ?_)
    rw [z_setR] at hP hD
    have hP : va_P (dC, dI) vwCl (([] : va_W) ++ (rA cI Rw j h q n (upd f n v)).set j (rO h q (n + 1))) H := hP
    have hD : va_D A (([] : va_W) ++ (rA cI Rw j h q n (upd f n v)).set j (rO h q (n + 1))) := hD
    rw [rA_seto] at hP hD
    exact hret H locs (([] : va_W) ++ rA cI Rw j h q (n + 1) (upd f n v)) _ ls hP hD hS dX2_append_29 (by rw [if_pos (by omega), if_pos (by omega)])
