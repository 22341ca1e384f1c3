abbrev rm_X3_init : Room := { frames := 1, cells := 4, slots := 960, locals := 20 }
set_option maxHeartbeats 4000000 in
set_option maxRecDepth 100000 in
theorem c_Script_init (l : Launch) (dC : Nat → ClassId) (dI : Nat → Nat → Nat) (cI cJ cR : ClassId) (h : Nat) : zV l (dC, dI) vwCl (zT cI cJ cR) zNW yX3_init wsX3_init rm_X3_init [.ref h] ([(h, .inr (3, [.null, .null, .null, .null, .int 0]))] : va_W) (fun w => ∃ qk qf qt qv : Nat, w = ([(h, .inr (3, [.ref qk, .ref qf, .ref qt, .ref qv, .int (-1)])), (qk, .inl (cI, 240, .inl (fun _ => 0))), (qf, .inl (cI, 240, .inl (fun _ => 0))), (qt, .inl (cI, 240, .inl (fun _ => 0))), (qv, .inl (cI, 240, .inl (fun _ => 0)))] : va_W)) := by
  refine z_ofV (cc := cX3_init) (maxL := 1) (by decide) rfl (Nat.le_of_ble_eq_true rfl) ?_
  intro p e s m args below meth c A Q ls hI hret
  obtain ⟨hx, hb, hml, hown, hts, hnm, hA, hK, hN, hP, hD, hS, hl⟩ := hI
  have hown : s.vm.findClass RX3 = some m.cls := hown
  have hl : lv_has ls 1 [(0, .ref h)] := hl
  have hP : va_P (dC, dI) vwCl (([(h, .inr (3, [.null, .null, .null, .null, .int 0]))] : va_W) ++ ([] : va_W)) s.heap := hP
  have hD : va_D A (([(h, .inr (3, [.null, .null, .null, .null, .int 0]))] : va_W) ++ ([] : va_W)) := hD
  have hz : ∀ w ∈ zW, w.before args s = true := fun w h => hts w (List.mem_cons_of_mem _ h)
  have hin : meth.name = "<init>" := hnm
  refine lv_aload_n hx hb dX3_init_0 rfl (lv_at hl 0 rfl) ?_
  refine W.objInit hx hb hown (hz _ zw_85) (hz _ zw_41) (hz _ zw_42) rfl (by rw [hml]; exact hl.1) rfl dX3_init_1 (Nat.le_of_ble_eq_true rfl) (Nat.le_of_ble_eq_true rfl) ?_
  refine W.eq (g2 := F0 m 4 ls []) rfl ?_
  refine lv_aload_n hx hb dX3_init_4 rfl (lv_at hl 0 rfl) ?_
  refine lv_sipush (v := nI 240) hx hb dX3_init_5 (by decide) ?_
  refine z_newi hx hb (hz _ zw_65) hK hP hD hS hA 240 0 rfl (by decide) (Nat.le_of_ble_eq_true rfl) (Nat.le_of_ble_eq_true rfl) dX3_init_8 (fun q1 H hP hD hS => ?_)
  refine W.widen (k := 1) (n := 240) (by decide) (by decide) ?_
  have hP : va_P (dC, dI) vwCl (([(h, .inr (3, [.null, .null, .null, .null, .int 0])), (q1, .inl (cI, 240, .inl (fun _ => 0)))] : va_W) ++ ([] : va_W)) H := hP
  have hD : va_D A (([(h, .inr (3, [.null, .null, .null, .null, .int 0])), (q1, .inl (cI, 240, .inl (fun _ => 0)))] : va_W) ++ ([] : va_W)) := hD
  refine va_putF (D := (dC, dI)) (ci := 3) (v := .ref q1) (ty := .array .int) (C := RX3) (T := TX3) (N := 5) hx hb hz hinX3 tyX3 tyX3_ok nmX3 hown hK hP hD hS 0 rfl rfl 0 (by decide) (hz _ zw_86) (fun _ h9 => h9) rfl hin rfl (by decide +kernel) rfl rfl (Nat.le_of_ble_eq_true rfl) dX3_init_10 (fun H locs hP hD hS => ?_)
  have hP : va_P (dC, dI) vwCl (([(h, .inr (3, [.ref q1, .null, .null, .null, .int 0])), (q1, .inl (cI, 240, .inl (fun _ => 0)))] : va_W) ++ ([] : va_W)) H := hP
  have hD : va_D A (([(h, .inr (3, [.ref q1, .null, .null, .null, .int 0])), (q1, .inl (cI, 240, .inl (fun _ => 0)))] : va_W) ++ ([] : va_W)) := hD
  refine lv_aload_n hx hb dX3_init_13 rfl (lv_at hl 0 rfl) ?_
  refine lv_sipush (v := nI 240) hx hb dX3_init_14 (by decide) ?_
  refine z_newi hx hb (hz _ zw_65) hK hP hD hS hA 240 0 rfl (by decide) (Nat.le_of_ble_eq_true rfl) (Nat.le_of_ble_eq_true rfl) dX3_init_17 (fun q2 H hP hD hS => ?_)
  refine W.widen (k := 2) (n := 480) (by decide) (by decide) ?_
  have hP : va_P (dC, dI) vwCl (([(h, .inr (3, [.ref q1, .null, .null, .null, .int 0])), (q1, .inl (cI, 240, .inl (fun _ => 0))), (q2, .inl (cI, 240, .inl (fun _ => 0)))] : va_W) ++ ([] : va_W)) H := hP
  have hD : va_D A (([(h, .inr (3, [.ref q1, .null, .null, .null, .int 0])), (q1, .inl (cI, 240, .inl (fun _ => 0))), (q2, .inl (cI, 240, .inl (fun _ => 0)))] : va_W) ++ ([] : va_W)) := hD
  refine va_putF (D := (dC, dI)) (ci := 3) (v := .ref q2) (ty := .array .int) (C := RX3) (T := TX3) (N := 5) hx hb hz hinX3 tyX3 tyX3_ok nmX3 hown hK hP hD hS 0 rfl rfl 1 (by decide) (hz _ zw_88) (fun _ h9 => h9) rfl hin rfl (by decide +kernel) rfl rfl (Nat.le_of_ble_eq_true rfl) dX3_init_19 (fun H locs hP hD hS => ?_)
  have hP : va_P (dC, dI) vwCl (([(h, .inr (3, [.ref q1, .ref q2, .null, .null, .int 0])), (q1, .inl (cI, 240, .inl (fun _ => 0))), (q2, .inl (cI, 240, .inl (fun _ => 0)))] : va_W) ++ ([] : va_W)) H := hP
  have hD : va_D A (([(h, .inr (3, [.ref q1, .ref q2, .null, .null, .int 0])), (q1, .inl (cI, 240, .inl (fun _ => 0))), (q2, .inl (cI, 240, .inl (fun _ => 0)))] : va_W) ++ ([] : va_W)) := hD
  refine lv_aload_n hx hb dX3_init_22 rfl (lv_at hl 0 rfl) ?_
  refine lv_sipush (v := nI 240) hx hb dX3_init_23 (by decide) ?_
  refine z_newi hx hb (hz _ zw_65) hK hP hD hS hA 240 0 rfl (by decide) (Nat.le_of_ble_eq_true rfl) (Nat.le_of_ble_eq_true rfl) dX3_init_26 (fun q3 H hP hD hS => ?_)
  refine W.widen (k := 3) (n := 720) (by decide) (by decide) ?_
  have hP : va_P (dC, dI) vwCl (([(h, .inr (3, [.ref q1, .ref q2, .null, .null, .int 0])), (q1, .inl (cI, 240, .inl (fun _ => 0))), (q2, .inl (cI, 240, .inl (fun _ => 0))), (q3, .inl (cI, 240, .inl (fun _ => 0)))] : va_W) ++ ([] : va_W)) H := hP
  have hD : va_D A (([(h, .inr (3, [.ref q1, .ref q2, .null, .null, .int 0])), (q1, .inl (cI, 240, .inl (fun _ => 0))), (q2, .inl (cI, 240, .inl (fun _ => 0))), (q3, .inl (cI, 240, .inl (fun _ => 0)))] : va_W) ++ ([] : va_W)) := hD
  refine va_putF (D := (dC, dI)) (ci := 3) (v := .ref q3) (ty := .array .int) (C := RX3) (T := TX3) (N := 5) hx hb hz hinX3 tyX3 tyX3_ok nmX3 hown hK hP hD hS 0 rfl rfl 2 (by decide) (hz _ zw_90) (fun _ h9 => h9) rfl hin rfl (by decide +kernel) rfl rfl (Nat.le_of_ble_eq_true rfl) dX3_init_28 (fun H locs hP hD hS => ?_)
  have hP : va_P (dC, dI) vwCl (([(h, .inr (3, [.ref q1, .ref q2, .ref q3, .null, .int 0])), (q1, .inl (cI, 240, .inl (fun _ => 0))), (q2, .inl (cI, 240, .inl (fun _ => 0))), (q3, .inl (cI, 240, .inl (fun _ => 0)))] : va_W) ++ ([] : va_W)) H := hP
  have hD : va_D A (([(h, .inr (3, [.ref q1, .ref q2, .ref q3, .null, .int 0])), (q1, .inl (cI, 240, .inl (fun _ => 0))), (q2, .inl (cI, 240, .inl (fun _ => 0))), (q3, .inl (cI, 240, .inl (fun _ => 0)))] : va_W) ++ ([] : va_W)) := hD
  refine lv_aload_n hx hb dX3_init_31 rfl (lv_at hl 0 rfl) ?_
  refine lv_sipush (v := nI 240) hx hb dX3_init_32 (by decide) ?_
  refine z_newi hx hb (hz _ zw_65) hK hP hD hS hA 240 0 rfl (by decide) (Nat.le_of_ble_eq_true rfl) (Nat.le_of_ble_eq_true rfl) dX3_init_35 (fun q4 H hP hD hS => ?_)
  refine W.widen (k := 4) (n := 960) (by decide) (by decide) ?_
  have hP : va_P (dC, dI) vwCl (([(h, .inr (3, [.ref q1, .ref q2, .ref q3, .null, .int 0])), (q1, .inl (cI, 240, .inl (fun _ => 0))), (q2, .inl (cI, 240, .inl (fun _ => 0))), (q3, .inl (cI, 240, .inl (fun _ => 0))), (q4, .inl (cI, 240, .inl (fun _ => 0)))] : va_W) ++ ([] : va_W)) H := hP
  have hD : va_D A (([(h, .inr (3, [.ref q1, .ref q2, .ref q3, .null, .int 0])), (q1, .inl (cI, 240, .inl (fun _ => 0))), (q2, .inl (cI, 240, .inl (fun _ => 0))), (q3, .inl (cI, 240, .inl (fun _ => 0))), (q4, .inl (cI, 240, .inl (fun _ => 0)))] : va_W) ++ ([] : va_W)) := hD
  refine va_putF (D := (dC, dI)) (ci := 3) (v := .ref q4) (ty := .array .int) (C := RX3) (T := TX3) (N := 5) hx hb hz hinX3 tyX3 tyX3_ok nmX3 hown hK hP hD hS 0 rfl rfl 3 (by decide) (hz _ zw_92) (fun _ h9 => h9) rfl hin rfl (by decide +kernel) rfl rfl (Nat.le_of_ble_eq_true rfl) dX3_init_37 (fun H locs hP hD hS => ?_)
  have hP : va_P (dC, dI) vwCl (([(h, .inr (3, [.ref q1, .ref q2, .ref q3, .ref q4, .int 0])), (q1, .inl (cI, 240, .inl (fun _ => 0))), (q2, .inl (cI, 240, .inl (fun _ => 0))), (q3, .inl (cI, 240, .inl (fun _ => 0))), (q4, .inl (cI, 240, .inl (fun _ => 0)))] : va_W) ++ ([] : va_W)) H := hP
  have hD : va_D A (([(h, .inr (3, [.ref q1, .ref q2, .ref q3, .ref q4, .int 0])), (q1, .inl (cI, 240, .inl (fun _ => 0))), (q2, .inl (cI, 240, .inl (fun _ => 0))), (q3, .inl (cI, 240, .inl (fun _ => 0))), (q4, .inl (cI, 240, .inl (fun _ => 0)))] : va_W) ++ ([] : va_W)) := hD
  refine lv_aload_n hx hb dX3_init_40 rfl (lv_at hl 0 rfl) ?_
  refine lv_iconst (v := (-1)) hx hb dX3_init_41 (by decide) ?_
  refine va_put (D := (dC, dI)) (ci := 3) (v := .int (-1)) (ty := .int) (C := RX3) (T := TX3) (N := 5) hx hb hz hinX3 tyX3 tyX3_ok nmX3 hown hK hP hD hS 0 rfl rfl 4 (by decide) (hz _ zw_95) (fun _ h9 => h9) rfl (by decide +kernel) rfl rfl (Nat.le_of_ble_eq_true rfl) dX3_init_42 (fun H locs hP hD hS => ?_)
  have hP : va_P (dC, dI) vwCl (([(h, .inr (3, [.ref q1, .ref q2, .ref q3, .ref q4, .int (-1)])), (q1, .inl (cI, 240, .inl (fun _ => 0))), (q2, .inl (cI, 240, .inl (fun _ => 0))), (q3, .inl (cI, 240, .inl (fun _ => 0))), (q4, .inl (cI, 240, .inl (fun _ => 0)))] : va_W) ++ ([] : va_W)) H := hP
  have hD : va_D A (([(h, .inr (3, [.ref q1, .ref q2, .ref q3, .ref q4, .int (-1)])), (q1, .inl (cI, 240, .inl (fun _ => 0))), (q2, .inl (cI, 240, .inl (fun _ => 0))), (q3, .inl (cI, 240, .inl (fun _ => 0))), (q4, .inl (cI, 240, .inl (fun _ => 0)))] : va_W) ++ ([] : va_W)) := hD
  exact hret H locs ([(h, .inr (3, [.ref q1, .ref q2, .ref q3, .ref q4, .int (-1)])), (q1, .inl (cI, 240, .inl (fun _ => 0))), (q2, .inl (cI, 240, .inl (fun _ => 0))), (q3, .inl (cI, 240, .inl (fun _ => 0))), (q4, .inl (cI, 240, .inl (fun _ => 0)))] : va_W) _ ls hP hD hS dX3_init_45 ⟨q1, q2, q3, q4, rfl⟩

abbrev rm_X3_begin : Room := { frames := 0, cells := 0, slots := 0, locals := 0 }
set_option maxHeartbeats 4000000 in
set_option maxRecDepth 100000 in
theorem c_Script_begin (l : Launch) (dC : Nat → ClassId) (dI : Nat → Nat → Nat) (cI cJ cR : ClassId) (h qk qf qt qv : Nat) (K F G V : Nat → Int32) (n : Int32) : zV l (dC, dI) vwCl (zT cI cJ cR) zNW yX3_begin wsX3_begin rm_X3_begin [.ref h] ([(h, .inr (3, [.ref qk, .ref qf, .ref qt, .ref qv, .int n])), (qk, .inl (cI, 240, .inl K)), (qf, .inl (cI, 240, .inl F)), (qt, .inl (cI, 240, .inl G)), (qv, .inl (cI, 240, .inl V))] : va_W) (fun w => w = ([(h, .inr (3, [.ref qk, .ref qf, .ref qt, .ref qv, .int (nI 0)])), (qk, .inl (cI, 240, .inl K)), (qf, .inl (cI, 240, .inl F)), (qt, .inl (cI, 240, .inl G)), (qv, .inl (cI, 240, .inl V))] : va_W)) := by
  refine z_ofV (cc := cX3_begin) (maxL := 1) (by decide) rfl (Nat.le_of_ble_eq_true rfl) ?_
  intro p e s m args below meth c A Q ls hI hret
  obtain ⟨hx, hb, hml, hown, hts, hnm, hA, hK, hN, hP, hD, hS, hl⟩ := hI
  have hown : s.vm.findClass RX3 = some m.cls := hown
  have hl : lv_has ls 1 [(0, .ref h)] := hl
  have hP : va_P (dC, dI) vwCl (([(h, .inr (3, [.ref qk, .ref qf, .ref qt, .ref qv, .int n])), (qk, .inl (cI, 240, .inl K)), (qf, .inl (cI, 240, .inl F)), (qt, .inl (cI, 240, .inl G)), (qv, .inl (cI, 240, .inl V))] : va_W) ++ ([] : va_W)) s.heap := hP
  have hD : va_D A (([(h, .inr (3, [.ref qk, .ref qf, .ref qt, .ref qv, .int n])), (qk, .inl (cI, 240, .inl K)), (qf, .inl (cI, 240, .inl F)), (qt, .inl (cI, 240, .inl G)), (qv, .inl (cI, 240, .inl V))] : va_W) ++ ([] : va_W)) := hD
  have hz : ∀ w ∈ zW, w.before args s = true := fun w h => hts w (List.mem_cons_of_mem _ h)
  refine lv_aload_n hx hb dX3_begin_0 rfl (lv_at hl 0 rfl) ?_
  refine lv_iconst (v := nI 0) hx hb dX3_begin_1 (by decide) ?_
  refine va_put (D := (dC, dI)) (ci := 3) (v := .int (nI 0)) (ty := .int) (C := RX3) (T := TX3) (N := 5) hx hb hz hinX3 tyX3 tyX3_ok nmX3 hown hK hP hD hS 0 rfl rfl 4 (by decide) (hz _ zw_95) (fun _ h9 => h9) rfl (by decide +kernel) rfl rfl (Nat.le_of_ble_eq_true rfl) dX3_begin_2 (fun H locs hP hD hS => ?_)
  have hP : va_P (dC, dI) vwCl (([(h, .inr (3, [.ref qk, .ref qf, .ref qt, .ref qv, .int (nI 0)])), (qk, .inl (cI, 240, .inl K)), (qf, .inl (cI, 240, .inl F)), (qt, .inl (cI, 240, .inl G)), (qv, .inl (cI, 240, .inl V))] : va_W) ++ ([] : va_W)) H := hP
  have hD : va_D A (([(h, .inr (3, [.ref qk, .ref qf, .ref qt, .ref qv, .int (nI 0)])), (qk, .inl (cI, 240, .inl K)), (qf, .inl (cI, 240, .inl F)), (qt, .inl (cI, 240, .inl G)), (qv, .inl (cI, 240, .inl V))] : va_W) ++ ([] : va_W)) := hD
  exact hret H locs ([(h, .inr (3, [.ref qk, .ref qf, .ref qt, .ref qv, .int (nI 0)])), (qk, .inl (cI, 240, .inl K)), (qf, .inl (cI, 240, .inl F)), (qt, .inl (cI, 240, .inl G)), (qv, .inl (cI, 240, .inl V))] : va_W) _ ls hP hD hS dX3_begin_5 rfl

abbrev rm_X3_append : Room := { frames := 0, cells := 0, slots := 0, locals := 0 }
set_option maxHeartbeats 4000000 in
set_option maxRecDepth 100000 in
theorem c_Script_append (l : Launch) (dC : Nat → ClassId) (dI : Nat → Nat → Nat) (cI cJ cR : ClassId) (h qk qf qt qv : Nat) (K F G V : Nat → Int32) (n : Nat) (x0 x1 x2 x3 : Int32) (hn : n < 240) : zV l (dC, dI) vwCl (zT cI cJ cR) zNW yX3_append wsX3_append rm_X3_append [.ref h, .int x0, .int x1, .int x2, .int x3] ([(h, .inr (3, [.ref qk, .ref qf, .ref qt, .ref qv, .int (nI n)])), (qk, .inl (cI, 240, .inl K)), (qf, .inl (cI, 240, .inl F)), (qt, .inl (cI, 240, .inl G)), (qv, .inl (cI, 240, .inl V))] : va_W) (fun w => w = ([(h, .inr (3, [.ref qk, .ref qf, .ref qt, .ref qv, .int (nI (n + 1))])), (qk, .inl (cI, 240, .inl (upd K n x0))), (qf, .inl (cI, 240, .inl (upd F n x1))), (qt, .inl (cI, 240, .inl (upd G n x2))), (qv, .inl (cI, 240, .inl (upd V n x3)))] : va_W)) := by
  refine z_ofV (cc := cX3_append) (maxL := 5) (by decide) rfl (Nat.le_of_ble_eq_true rfl) ?_
  intro p e s m args below meth c A Q ls hI hret
  obtain ⟨hx, hb, hml, hown, hts, hnm, hA, hK, hN, hP, hD, hS, hl⟩ := hI
  have hown : s.vm.findClass RX3 = some m.cls := hown
  have hl : lv_has ls 5 [(0, .ref h), (1, .int x0), (2, .int x1), (3, .int x2), (4, .int x3)] := hl
  have hP : va_P (dC, dI) vwCl (([(h, .inr (3, [.ref qk, .ref qf, .ref qt, .ref qv, .int (nI n)])), (qk, .inl (cI, 240, .inl K)), (qf, .inl (cI, 240, .inl F)), (qt, .inl (cI, 240, .inl G)), (qv, .inl (cI, 240, .inl V))] : va_W) ++ ([] : va_W)) s.heap := hP
  have hD : va_D A (([(h, .inr (3, [.ref qk, .ref qf, .ref qt, .ref qv, .int (nI n)])), (qk, .inl (cI, 240, .inl K)), (qf, .inl (cI, 240, .inl F)), (qt, .inl (cI, 240, .inl G)), (qv, .inl (cI, 240, .inl V))] : va_W) ++ ([] : va_W)) := hD
  have hz : ∀ w ∈ zW, w.before args s = true := fun w h => hts w (List.mem_cons_of_mem _ h)
  refine lv_aload_n hx hb dX3_append_0 rfl (lv_at hl 0 rfl) ?_
  refine va_get (D := (dC, dI)) (ci := 3) (v := .int (nI n)) (C := RX3) (T := TX3) (N := 5) hx hb hz hinX3 hown hK hP 0 rfl rfl 4 (by decide) (hz _ zw_95) (fun _ h9 => h9) rfl dX3_append_1 ?_
  refine lv_if_lt (tgt := 68) hx hb dX3_append_4 (by decide) (fun c0 => ?_) (fun c0 => ?_)
  · exact absurd c0 (nI_pos (by omega))
  · refine lv_aload_n hx hb dX3_append_7 rfl (lv_at hl 0 rfl) ?_
    refine va_get (D := (dC, dI)) (ci := 3) (v := .int (nI n)) (C := RX3) (T := TX3) (N := 5) hx hb hz hinX3 hown hK hP 0 rfl rfl 4 (by decide) (hz _ zw_95) (fun _ h9 => h9) rfl dX3_append_8 ?_
    refine lv_sipush (v := nI 240) hx hb dX3_append_11 (by decide) ?_
    refine lv_icmp_ge (tgt := 68) hx hb dX3_append_14 (by decide) (fun bb1 => ?_) (fun bb1 => ?_)
    · have bb1 : 240 ≤ n := (nI_leI (by omega) (by omega)).mp bb1
      omega
    · have bb1 : ¬ (240 ≤ n) := fun h => bb1 ((nI_leI (by omega) (by omega)).mpr h)
      refine lv_aload_n hx hb dX3_append_17 rfl (lv_at hl 0 rfl) ?_
      refine va_get (D := (dC, dI)) (ci := 3) (v := .ref qk) (C := RX3) (T := TX3) (N := 5) hx hb hz hinX3 hown hK hP 0 rfl rfl 0 (by decide) (hz _ zw_86) (fun _ h9 => h9) rfl dX3_append_18 ?_
      refine lv_aload_n hx hb dX3_append_21 rfl (lv_at hl 0 rfl) ?_
      refine va_get (D := (dC, dI)) (ci := 3) (v := .int (nI n)) (C := RX3) (T := TX3) (N := 5) hx hb hz hinX3 hown hK hP 0 rfl rfl 4 (by decide) (hz _ zw_95) (fun _ h9 => h9) rfl dX3_append_22 ?_
      refine lv_iload_n hx hb dX3_append_25 rfl (lv_at hl 1 rfl) ?_
      refine z_iast hx hb hK hP hD hS 1 0 rfl rfl (k := n) (by omega) (by omega) dX3_append_26 (fun H locs hP hD hS => ?_)
      have hP : va_P (dC, dI) vwCl (([(h, .inr (3, [.ref qk, .ref qf, .ref qt, .ref qv, .int (nI n)])), (qk, .inl (cI, 240, .inl (upd K n x0))), (qf, .inl (cI, 240, .inl F)), (qt, .inl (cI, 240, .inl G)), (qv, .inl (cI, 240, .inl V))] : va_W) ++ ([] : va_W)) H := hP
      have hD : va_D A (([(h, .inr (3, [.ref qk, .ref qf, .ref qt, .ref qv, .int (nI n)])), (qk, .inl (cI, 240, .inl (upd K n x0))), (qf, .inl (cI, 240, .inl F)), (qt, .inl (cI, 240, .inl G)), (qv, .inl (cI, 240, .inl V))] : va_W) ++ ([] : va_W)) := hD
      refine lv_aload_n hx hb dX3_append_27 rfl (lv_at hl 0 rfl) ?_
      refine va_get (D := (dC, dI)) (ci := 3) (v := .ref qf) (C := RX3) (T := TX3) (N := 5) hx hb hz hinX3 hown hK hP 0 rfl rfl 1 (by decide) (hz _ zw_88) (fun _ h9 => h9) rfl dX3_append_28 ?_
      refine lv_aload_n hx hb dX3_append_31 rfl (lv_at hl 0 rfl) ?_
      refine va_get (D := (dC, dI)) (ci := 3) (v := .int (nI n)) (C := RX3) (T := TX3) (N := 5) hx hb hz hinX3 hown hK hP 0 rfl rfl 4 (by decide) (hz _ zw_95) (fun _ h9 => h9) rfl dX3_append_32 ?_
      refine lv_iload_n hx hb dX3_append_35 rfl (lv_at hl 2 rfl) ?_
      refine z_iast hx hb hK hP hD hS 2 0 rfl rfl (k := n) (by omega) (by omega) dX3_append_36 (fun H locs hP hD hS => ?_)
      have hP : va_P (dC, dI) vwCl (([(h, .inr (3, [.ref qk, .ref qf, .ref qt, .ref qv, .int (nI n)])), (qk, .inl (cI, 240, .inl (upd K n x0))), (qf, .inl (cI, 240, .inl (upd F n x1))), (qt, .inl (cI, 240, .inl G)), (qv, .inl (cI, 240, .inl V))] : va_W) ++ ([] : va_W)) H := hP
      have hD : va_D A (([(h, .inr (3, [.ref qk, .ref qf, .ref qt, .ref qv, .int (nI n)])), (qk, .inl (cI, 240, .inl (upd K n x0))), (qf, .inl (cI, 240, .inl (upd F n x1))), (qt, .inl (cI, 240, .inl G)), (qv, .inl (cI, 240, .inl V))] : va_W) ++ ([] : va_W)) := hD
      refine lv_aload_n hx hb dX3_append_37 rfl (lv_at hl 0 rfl) ?_
      refine va_get (D := (dC, dI)) (ci := 3) (v := .ref qt) (C := RX3) (T := TX3) (N := 5) hx hb hz hinX3 hown hK hP 0 rfl rfl 2 (by decide) (hz _ zw_90) (fun _ h9 => h9) rfl dX3_append_38 ?_
      refine lv_aload_n hx hb dX3_append_41 rfl (lv_at hl 0 rfl) ?_
      refine va_get (D := (dC, dI)) (ci := 3) (v := .int (nI n)) (C := RX3) (T := TX3) (N := 5) hx hb hz hinX3 hown hK hP 0 rfl rfl 4 (by decide) (hz _ zw_95) (fun _ h9 => h9) rfl dX3_append_42 ?_
      refine lv_iload_n hx hb dX3_append_45 rfl (lv_at hl 3 rfl) ?_
      refine z_iast hx hb hK hP hD hS 3 0 rfl rfl (k := n) (by omega) (by omega) dX3_append_46 (fun H locs hP hD hS => ?_)
      have hP : va_P (dC, dI) vwCl (([(h, .inr (3, [.ref qk, .ref qf, .ref qt, .ref qv, .int (nI n)])), (qk, .inl (cI, 240, .inl (upd K n x0))), (qf, .inl (cI, 240, .inl (upd F n x1))), (qt, .inl (cI, 240, .inl (upd G n x2))), (qv, .inl (cI, 240, .inl V))] : va_W) ++ ([] : va_W)) H := hP
      have hD : va_D A (([(h, .inr (3, [.ref qk, .ref qf, .ref qt, .ref qv, .int (nI n)])), (qk, .inl (cI, 240, .inl (upd K n x0))), (qf, .inl (cI, 240, .inl (upd F n x1))), (qt, .inl (cI, 240, .inl (upd G n x2))), (qv, .inl (cI, 240, .inl V))] : va_W) ++ ([] : va_W)) := hD
      refine lv_aload_n hx hb dX3_append_47 rfl (lv_at hl 0 rfl) ?_
      refine va_get (D := (dC, dI)) (ci := 3) (v := .ref qv) (C := RX3) (T := TX3) (N := 5) hx hb hz hinX3 hown hK hP 0 rfl rfl 3 (by decide) (hz _ zw_92) (fun _ h9 => h9) rfl dX3_append_48 ?_
      refine lv_aload_n hx hb dX3_append_51 rfl (lv_at hl 0 rfl) ?_
      refine va_get (D := (dC, dI)) (ci := 3) (v := .int (nI n)) (C := RX3) (T := TX3) (N := 5) hx hb hz hinX3 hown hK hP 0 rfl rfl 4 (by decide) (hz _ zw_95) (fun _ h9 => h9) rfl dX3_append_52 ?_
      refine lv_iload hx hb dX3_append_55 (lv_at hl 4 rfl) ?_
      refine z_iast hx hb hK hP hD hS 4 0 rfl rfl (k := n) (by omega) (by omega) dX3_append_57 (fun H locs hP hD hS => ?_)
      have hP : va_P (dC, dI) vwCl (([(h, .inr (3, [.ref qk, .ref qf, .ref qt, .ref qv, .int (nI n)])), (qk, .inl (cI, 240, .inl (upd K n x0))), (qf, .inl (cI, 240, .inl (upd F n x1))), (qt, .inl (cI, 240, .inl (upd G n x2))), (qv, .inl (cI, 240, .inl (upd V n x3)))] : va_W) ++ ([] : va_W)) H := hP
      have hD : va_D A (([(h, .inr (3, [.ref qk, .ref qf, .ref qt, .ref qv, .int (nI n)])), (qk, .inl (cI, 240, .inl (upd K n x0))), (qf, .inl (cI, 240, .inl (upd F n x1))), (qt, .inl (cI, 240, .inl (upd G n x2))), (qv, .inl (cI, 240, .inl (upd V n x3)))] : va_W) ++ ([] : va_W)) := hD
      refine lv_aload_n hx hb dX3_append_58 rfl (lv_at hl 0 rfl) ?_
      refine lv_dup hx hb dX3_append_59 rfl ?_
      refine va_get (D := (dC, dI)) (ci := 3) (v := .int (nI n)) (C := RX3) (T := TX3) (N := 5) hx hb hz hinX3 hown hK hP 0 rfl rfl 4 (by decide) (hz _ zw_95) (fun _ h9 => h9) rfl dX3_append_60 ?_
      refine lv_iconst (v := nI 1) hx hb dX3_append_63 (by decide) ?_
      refine t_iadd hx hb dX3_append_64 (show nI n + nI 1 = nI (n + 1) from (nI_add _ _)) ?_
      refine va_put (D := (dC, dI)) (ci := 3) (v := .int (nI (n + 1))) (ty := .int) (C := RX3) (T := TX3) (N := 5) hx hb hz hinX3 tyX3 tyX3_ok nmX3 hown hK hP hD hS 0 rfl rfl 4 (by decide) (hz _ zw_95) (fun _ h9 => h9) rfl (by decide +kernel) rfl rfl (Nat.le_of_ble_eq_true rfl) dX3_append_65 (fun H locs hP hD hS => ?_)
      have hP : va_P (dC, dI) vwCl (([(h, .inr (3, [.ref qk, .ref qf, .ref qt, .ref qv, .int (nI (n + 1))])), (qk, .inl (cI, 240, .inl (upd K n x0))), (qf, .inl (cI, 240, .inl (upd F n x1))), (qt, .inl (cI, 240, .inl (upd G n x2))), (qv, .inl (cI, 240, .inl (upd V n x3)))] : va_W) ++ ([] : va_W)) H := hP
      have hD : va_D A (([(h, .inr (3, [.ref qk, .ref qf, .ref qt, .ref qv, .int (nI (n + 1))])), (qk, .inl (cI, 240, .inl (upd K n x0))), (qf, .inl (cI, 240, .inl (upd F n x1))), (qt, .inl (cI, 240, .inl (upd G n x2))), (qv, .inl (cI, 240, .inl (upd V n x3)))] : va_W) ++ ([] : va_W)) := hD
      exact hret H locs ([(h, .inr (3, [.ref qk, .ref qf, .ref qt, .ref qv, .int (nI (n + 1))])), (qk, .inl (cI, 240, .inl (upd K n x0))), (qf, .inl (cI, 240, .inl (upd F n x1))), (qt, .inl (cI, 240, .inl (upd G n x2))), (qv, .inl (cI, 240, .inl (upd V n x3)))] : va_W) _ ls hP hD hS dX3_append_68 rfl

abbrev rm_X3_opensHunk : Room := { frames := 0, cells := 0, slots := 0, locals := 0 }
set_option maxHeartbeats 4000000 in
set_option maxRecDepth 100000 in
theorem c_Script_opensHunk (l : Launch) (dC : Nat → ClassId) (dI : Nat → Nat → Nat) (cI cJ cR : ClassId) (h qk qf qt qv : Nat) (K F G V : Nat → Int32) (n : Int32) (k : Nat) (hk : k < 240) : zI l (dC, dI) vwCl (zT cI cJ cR) zNW yX3_opensHunk wsX3_opensHunk rm_X3_opensHunk [.ref h, .int (nI k)] ([(h, .inr (3, [.ref qk, .ref qf, .ref qt, .ref qv, .int n])), (qk, .inl (cI, 240, .inl K)), (qf, .inl (cI, 240, .inl F)), (qt, .inl (cI, 240, .inl G)), (qv, .inl (cI, 240, .inl V))] : va_W) (fun r w => (r = if opn K k then 1 else 0) ∧ w = ([(h, .inr (3, [.ref qk, .ref qf, .ref qt, .ref qv, .int n])), (qk, .inl (cI, 240, .inl K)), (qf, .inl (cI, 240, .inl F)), (qt, .inl (cI, 240, .inl G)), (qv, .inl (cI, 240, .inl V))] : va_W)) := by
  refine z_ofI (cc := cX3_opensHunk) (maxL := 2) (rt := .boolean) (Or.inr ⟨rfl, (fun v w h => by rw [h.1]; split <;> decide)⟩) (by decide) rfl (Nat.le_of_ble_eq_true rfl) ?_
  intro p e s m args below meth c A Q ls hI hret
  obtain ⟨hx, hb, hml, hown, hts, hnm, hA, hK, hN, hP, hD, hS, hl⟩ := hI
  have hown : s.vm.findClass RX3 = some m.cls := hown
  have hl : lv_has ls 2 [(0, .ref h), (1, .int (nI k))] := hl
  have hP : va_P (dC, dI) vwCl (([(h, .inr (3, [.ref qk, .ref qf, .ref qt, .ref qv, .int n])), (qk, .inl (cI, 240, .inl K)), (qf, .inl (cI, 240, .inl F)), (qt, .inl (cI, 240, .inl G)), (qv, .inl (cI, 240, .inl V))] : va_W) ++ ([] : va_W)) s.heap := hP
  have hD : va_D A (([(h, .inr (3, [.ref qk, .ref qf, .ref qt, .ref qv, .int n])), (qk, .inl (cI, 240, .inl K)), (qf, .inl (cI, 240, .inl F)), (qt, .inl (cI, 240, .inl G)), (qv, .inl (cI, 240, .inl V))] : va_W) ++ ([] : va_W)) := hD
  have hz : ∀ w ∈ zW, w.before args s = true := fun w h => hts w (List.mem_cons_of_mem _ h)
  refine lv_aload_n hx hb dX3_opensHunk_0 rfl (lv_at hl 0 rfl) ?_
  refine va_get (D := (dC, dI)) (ci := 3) (v := .ref qk) (C := RX3) (T := TX3) (N := 5) hx hb hz hinX3 hown hK hP 0 rfl rfl 0 (by decide) (hz _ zw_86) (fun _ h9 => h9) rfl dX3_opensHunk_1 ?_
  refine lv_iload_n hx hb dX3_opensHunk_4 rfl (lv_at hl 1 rfl) ?_
  refine z_iald (v := K k) hx hb hK hP 1 0 rfl rfl (k := k) (by omega) (by omega) rfl dX3_opensHunk_5 ?_
  refine lv_if_eq (tgt := 28) hx hb dX3_opensHunk_6 (by decide) (fun c1 => ?_) (fun c1 => ?_)
  · refine lv_iconst (v := nI 0) hx hb dX3_opensHunk_28 (by decide) ?_
    exact hret s.heap [] _ ([(h, .inr (3, [.ref qk, .ref qf, .ref qt, .ref qv, .int n])), (qk, .inl (cI, 240, .inl K)), (qf, .inl (cI, 240, .inl F)), (qt, .inl (cI, 240, .inl G)), (qv, .inl (cI, 240, .inl V))] : va_W) _ ls hP hD hS dX3_opensHunk_29 ⟨by rw [if_neg (fun h => h.1 c1)]; decide, rfl⟩
  · refine lv_iload_n hx hb dX3_opensHunk_9 rfl (lv_at hl 1 rfl) ?_
    refine lv_if_eq (tgt := 24) hx hb dX3_opensHunk_10 (by decide) (fun c2 => ?_) (fun c2 => ?_)
    · have c2 : k = 0 := by rw [← nI_0] at c2; exact (nI_eq (by omega) (by omega)).mp c2
      refine lv_iconst (v := nI 1) hx hb dX3_opensHunk_24 (by decide) ?_
      refine lv_goto (tgt := 29) hx hb dX3_opensHunk_25 (by decide) ?_
      exact hret s.heap [] _ ([(h, .inr (3, [.ref qk, .ref qf, .ref qt, .ref qv, .int n])), (qk, .inl (cI, 240, .inl K)), (qf, .inl (cI, 240, .inl F)), (qt, .inl (cI, 240, .inl G)), (qv, .inl (cI, 240, .inl V))] : va_W) _ ls hP hD hS dX3_opensHunk_29 ⟨by rw [if_pos (show opn K k from ⟨c1, Or.inl c2⟩)]; decide, rfl⟩
    · have c2 : k ≠ 0 := fun z => c2 (by rw [z]; exact nI_0)
      refine lv_aload_n hx hb dX3_opensHunk_13 rfl (lv_at hl 0 rfl) ?_
      refine va_get (D := (dC, dI)) (ci := 3) (v := .ref qk) (C := RX3) (T := TX3) (N := 5) hx hb hz hinX3 hown hK hP 0 rfl rfl 0 (by decide) (hz _ zw_86) (fun _ h9 => h9) rfl dX3_opensHunk_14 ?_
      refine lv_iload_n hx hb dX3_opensHunk_17 rfl (lv_at hl 1 rfl) ?_
      refine lv_iconst (v := nI 1) hx hb dX3_opensHunk_18 (by decide) ?_
      refine t_isub hx hb dX3_opensHunk_19 (show nI k - nI 1 = nI (k - 1) from (pk_sub (by omega))) ?_
      refine z_iald (v := K (k - 1)) hx hb hK hP 1 0 rfl rfl (k := (k - 1)) (by omega) (by omega) rfl dX3_opensHunk_20 ?_
      refine lv_if_ne (tgt := 28) hx hb dX3_opensHunk_21 (by decide) (fun c3 => ?_) (fun c3 => ?_)
      · refine lv_iconst (v := nI 0) hx hb dX3_opensHunk_28 (by decide) ?_
        exact hret s.heap [] _ ([(h, .inr (3, [.ref qk, .ref qf, .ref qt, .ref qv, .int n])), (qk, .inl (cI, 240, .inl K)), (qf, .inl (cI, 240, .inl F)), (qt, .inl (cI, 240, .inl G)), (qv, .inl (cI, 240, .inl V))] : va_W) _ ls hP hD hS dX3_opensHunk_29 ⟨by rw [if_neg (fun h => by rcases h.2 with z | z; exact c2 z; exact c3 z)]; decide, rfl⟩
      · refine lv_iconst (v := nI 1) hx hb dX3_opensHunk_24 (by decide) ?_
        refine lv_goto (tgt := 29) hx hb dX3_opensHunk_25 (by decide) ?_
        exact hret s.heap [] _ ([(h, .inr (3, [.ref qk, .ref qf, .ref qt, .ref qv, .int n])), (qk, .inl (cI, 240, .inl K)), (qf, .inl (cI, 240, .inl F)), (qt, .inl (cI, 240, .inl G)), (qv, .inl (cI, 240, .inl V))] : va_W) _ ls hP hD hS dX3_opensHunk_29 ⟨by rw [if_pos (show opn K k from ⟨c1, Or.inr c3⟩)]; decide, rfl⟩

abbrev rm_X3_countHunks : Room := { frames := 1, cells := 0, slots := 0, locals := 21 }
set_option maxHeartbeats 4000000 in
set_option maxRecDepth 100000 in
theorem c_Script_countHunks (l : Launch) (dC : Nat → ClassId) (dI : Nat → Nat → Nat) (cI cJ cR : ClassId) (h qk qf qt qv : Nat) (K F G V : Nat → Int32) (n : Nat) (hn : n ≤ 240) : zI l (dC, dI) vwCl (zT cI cJ cR) zNW yX3_countHunks wsX3_countHunks rm_X3_countHunks [.ref h] ([(h, .inr (3, [.ref qk, .ref qf, .ref qt, .ref qv, .int (nI n)])), (qk, .inl (cI, 240, .inl K)), (qf, .inl (cI, 240, .inl F)), (qt, .inl (cI, 240, .inl G)), (qv, .inl (cI, 240, .inl V))] : va_W) (fun r w => r = nI (hnk K n) ∧ w = ([(h, .inr (3, [.ref qk, .ref qf, .ref qt, .ref qv, .int (nI n)])), (qk, .inl (cI, 240, .inl K)), (qf, .inl (cI, 240, .inl F)), (qt, .inl (cI, 240, .inl G)), (qv, .inl (cI, 240, .inl V))] : va_W)) := by
  refine z_ofI (cc := cX3_countHunks) (maxL := 3) (Or.inl rfl) (by decide) rfl (Nat.le_of_ble_eq_true rfl) ?_
  intro p e s m args below meth c A Q ls hI hret
  obtain ⟨hx, hb, hml, hown, hts, hnm, hA, hK, hN, hP, hD, hS, hl⟩ := hI
  have hown : s.vm.findClass RX3 = some m.cls := hown
  have hl : lv_has ls 3 [(0, .ref h)] := hl
  have hP : va_P (dC, dI) vwCl (([(h, .inr (3, [.ref qk, .ref qf, .ref qt, .ref qv, .int (nI n)])), (qk, .inl (cI, 240, .inl K)), (qf, .inl (cI, 240, .inl F)), (qt, .inl (cI, 240, .inl G)), (qv, .inl (cI, 240, .inl V))] : va_W) ++ ([] : va_W)) s.heap := hP
  have hD : va_D A (([(h, .inr (3, [.ref qk, .ref qf, .ref qt, .ref qv, .int (nI n)])), (qk, .inl (cI, 240, .inl K)), (qf, .inl (cI, 240, .inl F)), (qt, .inl (cI, 240, .inl G)), (qv, .inl (cI, 240, .inl V))] : va_W) ++ ([] : va_W)) := hD
  have hz : ∀ w ∈ zW, w.before args s = true := fun w h => hts w (List.mem_cons_of_mem _ h)
  refine lv_iconst (v := nI 0) hx hb dX3_countHunks_0 (by decide) ?_
  refine lv_istore_n (lv' := [(1, .int (nI 0)), (0, .ref h)]) hx hb dX3_countHunks_1 rfl hl (by decide) rfl (fun ls hl => ?_)
  refine lv_iconst (v := nI 0) hx hb dX3_countHunks_2 (by decide) ?_
  refine lv_istore_n (lv' := [(2, .int (nI 0)), (1, .int (nI 0)), (0, .ref h)]) hx hb dX3_countHunks_3 rfl hl (by decide) rfl (fun ls hl => ?_)
  have L1 : ∀ (d : Nat) (k : Nat) (H : Heap) (locs : List Loc) (ls : Array Slot), k + d = n → va_P (dC, dI) vwCl (([(h, .inr (3, [.ref qk, .ref qf, .ref qt, .ref qv, .int (nI n)])), (qk, .inl (cI, 240, .inl K)), (qf, .inl (cI, 240, .inl F)), (qt, .inl (cI, 240, .inl G)), (qv, .inl (cI, 240, .inl V))] : va_W) ++ ([] : va_W)) H → va_D A (([(h, .inr (3, [.ref qk, .ref qf, .ref qt, .ref qv, .int (nI n)])), (qk, .inl (cI, 240, .inl K)), (qf, .inl (cI, 240, .inl F)), (qt, .inl (cI, 240, .inl G)), (qv, .inl (cI, 240, .inl V))] : va_W) ++ ([] : va_W)) → va_S A s.heap H locs → lv_has ls 3 [(2, .int (nI k)), (1, .int (nI (hnk K k))), (0, .ref h)] → W p l e rm_X3_countHunks s m args below meth c H locs 0 0 Q (F0 m 4 ls []) := by
    intro d
    induction d with
    | zero =>
      intro k H locs ls hk hP hD hS hl
      have hk : k = n := hk
      refine lv_iload_n hx hb dX3_countHunks_4 rfl (lv_at hl 0 rfl) ?_
      refine lv_aload_n hx hb dX3_countHunks_5 rfl (lv_at hl 2 rfl) ?_
      refine va_get (D := (dC, dI)) (ci := 3) (v := .int (nI n)) (C := RX3) (T := TX3) (N := 5) hx hb hz hinX3 hown hK hP 0 rfl rfl 4 (by decide) (hz _ zw_95) (fun _ h9 => h9) rfl dX3_countHunks_6 ?_
      refine lv_icmp_ge (tgt := 29) hx hb dX3_countHunks_9 (by decide) (fun bb1 => ?_) (fun bb1 => ?_)
      · have bb1 : n ≤ k := (nI_leI (by omega) (by omega)).mp bb1
        refine lv_iload_n hx hb dX3_countHunks_29 rfl (lv_at hl 1 rfl) ?_
        exact hret H locs _ ([(h, .inr (3, [.ref qk, .ref qf, .ref qt, .ref qv, .int (nI n)])), (qk, .inl (cI, 240, .inl K)), (qf, .inl (cI, 240, .inl F)), (qt, .inl (cI, 240, .inl G)), (qv, .inl (cI, 240, .inl V))] : va_W) _ ls hP hD hS dX3_countHunks_30 ⟨by rw [hk], rfl⟩
      · have bb1 : ¬ (n ≤ k) := fun h => bb1 ((nI_leI (by omega) (by omega)).mpr h)
        omega
    | succ d ih =>
      intro k H locs ls hk hP hD hS hl
      have hb1 := hnk_le (K := K) k
      refine lv_iload_n hx hb dX3_countHunks_4 rfl (lv_at hl 0 rfl) ?_
      refine lv_aload_n hx hb dX3_countHunks_5 rfl (lv_at hl 2 rfl) ?_
      refine va_get (D := (dC, dI)) (ci := 3) (v := .int (nI n)) (C := RX3) (T := TX3) (N := 5) hx hb hz hinX3 hown hK hP 0 rfl rfl 4 (by decide) (hz _ zw_95) (fun _ h9 => h9) rfl dX3_countHunks_6 ?_
      refine lv_icmp_ge (tgt := 29) hx hb dX3_countHunks_9 (by decide) (fun bb2 => ?_) (fun bb2 => ?_)
      · have bb2 : n ≤ k := (nI_leI (by omega) (by omega)).mp bb2
        omega
      · have bb2 : ¬ (n ≤ k) := fun h => bb2 ((nI_leI (by omega) (by omega)).mpr h)
        refine lv_aload_n hx hb dX3_countHunks_12 rfl (lv_at hl 2 rfl) ?_
        refine lv_iload_n hx hb dX3_countHunks_13 rfl (lv_at hl 0 rfl) ?_
        refine z_ciQ (wr := ([] : va_W)) (cx := ([(h, .inr (3, [.ref qk, .ref qf, .ref qt, .ref qv, .int (nI n)])), (qk, .inl (cI, 240, .inl K)), (qf, .inl (cI, 240, .inl F)), (qt, .inl (cI, 240, .inl G)), (qv, .inl (cI, 240, .inl V))] : va_W)) hP hD hS hA [0, 1, 2, 3, 4] [] rfl rfl (by decide) (by decide) (va_runV (As := [.int (nI k)]) (rest := []) ⟨hx, hb, hml, hown, hz⟩ (c_Script_opensHunk l dC dI cI cJ cR h qk qf qt qv K F G V (nI n) k (by omega) H.size) (cwV 1 hz (zgV zw_193 zw_195 zw_0 zw_25 zw_196) rfl rfl rfl (by decide +kernel) ⟨Nat.le_of_ble_eq_true rfl, Nat.le_of_ble_eq_true rfl⟩) ⟨zP_blind, z_recv hK hP (ci := 3) rfl rfl (q0 := 0) rfl, z_preQ hK hN hP hD [0, 1, 2, 3, 4] rfl (by decide)⟩ rfl rfl hl.1 rfl (lv_room (Nat.le_of_ble_eq_true rfl)) dX3_countHunks_14 ⟨Nat.le_of_ble_eq_true rfl, Nat.le_of_ble_eq_true rfl⟩) (fun r w1 H locs hw hP hD hS => ?_)
        obtain ⟨hr, hw⟩ := hw
        subst hw
        have hP : va_P (dC, dI) vwCl (([(h, .inr (3, [.ref qk, .ref qf, .ref qt, .ref qv, .int (nI n)])), (qk, .inl (cI, 240, .inl K)), (qf, .inl (cI, 240, .inl F)), (qt, .inl (cI, 240, .inl G)), (qv, .inl (cI, 240, .inl V))] : va_W) ++ ([] : va_W)) H := hP
        have hD : va_D A (([(h, .inr (3, [.ref qk, .ref qf, .ref qt, .ref qv, .int (nI n)])), (qk, .inl (cI, 240, .inl K)), (qf, .inl (cI, 240, .inl F)), (qt, .inl (cI, 240, .inl G)), (qv, .inl (cI, 240, .inl V))] : va_W) ++ ([] : va_W)) := hD
        refine lv_if_eq (tgt := 23) hx hb dX3_countHunks_17 (by decide) (fun c2 => ?_) (fun c2 => ?_)
        · have hop : ¬ opn K k := fun z => by rw [hr, if_pos z] at c2; exact absurd c2 (by decide)
          refine lv_iinc (v := nI (k + 1)) (lv' := [(2, .int (nI (k + 1))), (1, .int (nI (hnk K k))), (0, .ref h)]) hx hb dX3_countHunks_23 hl (k := 0) rfl (show nI k + 1 = nI (k + 1) from nI_1 _) (by decide) rfl (fun ls hl => ?_)
          refine lv_goto (tgt := 4) hx hb dX3_countHunks_26 (by decide) ?_
          exact ih (k + 1) _ _ ls (by omega) hP hD hS (by rw [hnk_no hop]; exact (lv_sub hl [0, 1, 2] rfl))
        · have hop : opn K k := by by_cases z : opn K k; exact z; exact absurd (by rw [hr, if_neg z]) c2
          refine lv_iinc (v := nI (hnk K k + 1)) (lv' := [(1, .int (nI (hnk K k + 1))), (2, .int (nI k)), (0, .ref h)]) hx hb dX3_countHunks_20 hl (k := 1) rfl (show nI (hnk K k) + 1 = nI (hnk K k + 1) from nI_1 _) (by decide) rfl (fun ls hl => ?_)
          refine lv_iinc (v := nI (k + 1)) (lv' := [(2, .int (nI (k + 1))), (1, .int (nI (hnk K k + 1))), (0, .ref h)]) hx hb dX3_countHunks_23 hl (k := 1) rfl (show nI k + 1 = nI (k + 1) from nI_1 _) (by decide) rfl (fun ls hl => ?_)
          refine lv_goto (tgt := 4) hx hb dX3_countHunks_26 (by decide) ?_
          exact ih (k + 1) _ _ ls (by omega) hP hD hS (by rw [hnk_yes hop]; exact (lv_sub hl [0, 1, 2] rfl))
  exact L1 n 0 _ _ ls (by omega) hP hD hS (lv_sub hl [0, 1, 2] rfl)

abbrev rm_X3_firstStepOfHunk : Room := { frames := 1, cells := 0, slots := 0, locals := 21 }
set_option maxHeartbeats 4000000 in
set_option maxRecDepth 100000 in
theorem c_Script_first (l : Launch) (dC : Nat → ClassId) (dI : Nat → Nat → Nat) (cI cJ cR : ClassId) (h qk qf qt qv : Nat) (K F G V : Nat → Int32) (n : Nat) (x : Int32) (hn : n ≤ 240) : zI l (dC, dI) vwCl (zT cI cJ cR) zNW yX3_firstStepOfHunk wsX3_firstStepOfHunk rm_X3_firstStepOfHunk [.ref h, .int x] ([(h, .inr (3, [.ref qk, .ref qf, .ref qt, .ref qv, .int (nI n)])), (qk, .inl (cI, 240, .inl K)), (qf, .inl (cI, 240, .inl F)), (qt, .inl (cI, 240, .inl G)), (qv, .inl (cI, 240, .inl V))] : va_W) (fun r w => ((∃ k, k < n ∧ opn K k ∧ x = nI (hnk K k) ∧ r = nI k) ∨ ((∀ k, k < n → opn K k → x ≠ nI (hnk K k)) ∧ r = -1)) ∧ w = ([(h, .inr (3, [.ref qk, .ref qf, .ref qt, .ref qv, .int (nI n)])), (qk, .inl (cI, 240, .inl K)), (qf, .inl (cI, 240, .inl F)), (qt, .inl (cI, 240, .inl G)), (qv, .inl (cI, 240, .inl V))] : va_W)) := by
  refine z_ofI (cc := cX3_firstStepOfHunk) (maxL := 4) (Or.inl rfl) (by decide) rfl (Nat.le_of_ble_eq_true rfl) ?_
  intro p e s m args below meth c A Q ls hI hret
  obtain ⟨hx, hb, hml, hown, hts, hnm, hA, hK, hN, hP, hD, hS, hl⟩ := hI
  have hown : s.vm.findClass RX3 = some m.cls := hown
  have hl : lv_has ls 4 [(0, .ref h), (1, .int x)] := hl
  have hP : va_P (dC, dI) vwCl (([(h, .inr (3, [.ref qk, .ref qf, .ref qt, .ref qv, .int (nI n)])), (qk, .inl (cI, 240, .inl K)), (qf, .inl (cI, 240, .inl F)), (qt, .inl (cI, 240, .inl G)), (qv, .inl (cI, 240, .inl V))] : va_W) ++ ([] : va_W)) s.heap := hP
  have hD : va_D A (([(h, .inr (3, [.ref qk, .ref qf, .ref qt, .ref qv, .int (nI n)])), (qk, .inl (cI, 240, .inl K)), (qf, .inl (cI, 240, .inl F)), (qt, .inl (cI, 240, .inl G)), (qv, .inl (cI, 240, .inl V))] : va_W) ++ ([] : va_W)) := hD
  have hz : ∀ w ∈ zW, w.before args s = true := fun w h => hts w (List.mem_cons_of_mem _ h)
  refine lv_iconst (v := nI 0) hx hb dX3_firstStepOfHunk_0 (by decide) ?_
  refine lv_istore_n (lv' := [(2, .int (nI 0)), (0, .ref h), (1, .int x)]) hx hb dX3_firstStepOfHunk_1 rfl hl (by decide) rfl (fun ls hl => ?_)
  refine lv_iconst (v := nI 0) hx hb dX3_firstStepOfHunk_2 (by decide) ?_
  refine lv_istore_n (lv' := [(3, .int (nI 0)), (2, .int (nI 0)), (0, .ref h), (1, .int x)]) hx hb dX3_firstStepOfHunk_3 rfl hl (by decide) rfl (fun ls hl => ?_)
  have L1 : ∀ (d : Nat) (k : Nat) (H : Heap) (locs : List Loc) (ls : Array Slot), k + d = n → (∀ j, j < k → opn K j → x ≠ nI (hnk K j)) → va_P (dC, dI) vwCl (([(h, .inr (3, [.ref qk, .ref qf, .ref qt, .ref qv, .int (nI n)])), (qk, .inl (cI, 240, .inl K)), (qf, .inl (cI, 240, .inl F)), (qt, .inl (cI, 240, .inl G)), (qv, .inl (cI, 240, .inl V))] : va_W) ++ ([] : va_W)) H → va_D A (([(h, .inr (3, [.ref qk, .ref qf, .ref qt, .ref qv, .int (nI n)])), (qk, .inl (cI, 240, .inl K)), (qf, .inl (cI, 240, .inl F)), (qt, .inl (cI, 240, .inl G)), (qv, .inl (cI, 240, .inl V))] : va_W) ++ ([] : va_W)) → va_S A s.heap H locs → lv_has ls 4 [(3, .int (nI k)), (2, .int (nI (hnk K k))), (0, .ref h), (1, .int x)] → W p l e rm_X3_firstStepOfHunk s m args below meth c H locs 0 0 Q (F0 m 4 ls []) := by
    intro d
    induction d with
    | zero =>
      intro k H locs ls hk ha hP hD hS hl
      have hk : k = n := hk
      refine lv_iload_n hx hb dX3_firstStepOfHunk_4 rfl (lv_at hl 0 rfl) ?_
      refine lv_aload_n hx hb dX3_firstStepOfHunk_5 rfl (lv_at hl 2 rfl) ?_
      refine va_get (D := (dC, dI)) (ci := 3) (v := .int (nI n)) (C := RX3) (T := TX3) (N := 5) hx hb hz hinX3 hown hK hP 0 rfl rfl 4 (by decide) (hz _ zw_95) (fun _ h9 => h9) rfl dX3_firstStepOfHunk_6 ?_
      refine lv_icmp_ge (tgt := 36) hx hb dX3_firstStepOfHunk_9 (by decide) (fun bb1 => ?_) (fun bb1 => ?_)
      · have bb1 : n ≤ k := (nI_leI (by omega) (by omega)).mp bb1
        refine lv_iconst (v := (-1)) hx hb dX3_firstStepOfHunk_36 (by decide) ?_
        exact hret H locs _ ([(h, .inr (3, [.ref qk, .ref qf, .ref qt, .ref qv, .int (nI n)])), (qk, .inl (cI, 240, .inl K)), (qf, .inl (cI, 240, .inl F)), (qt, .inl (cI, 240, .inl G)), (qv, .inl (cI, 240, .inl V))] : va_W) _ ls hP hD hS dX3_firstStepOfHunk_37 ⟨Or.inr ⟨fun j hj => ha j (by omega), rfl⟩, rfl⟩
      · have bb1 : ¬ (n ≤ k) := fun h => bb1 ((nI_leI (by omega) (by omega)).mpr h)
        omega
    | succ d ih =>
      intro k H locs ls hk ha hP hD hS hl
      have hb1 := hnk_le (K := K) k
      refine lv_iload_n hx hb dX3_firstStepOfHunk_4 rfl (lv_at hl 0 rfl) ?_
      refine lv_aload_n hx hb dX3_firstStepOfHunk_5 rfl (lv_at hl 2 rfl) ?_
      refine va_get (D := (dC, dI)) (ci := 3) (v := .int (nI n)) (C := RX3) (T := TX3) (N := 5) hx hb hz hinX3 hown hK hP 0 rfl rfl 4 (by decide) (hz _ zw_95) (fun _ h9 => h9) rfl dX3_firstStepOfHunk_6 ?_
      refine lv_icmp_ge (tgt := 36) hx hb dX3_firstStepOfHunk_9 (by decide) (fun bb2 => ?_) (fun bb2 => ?_)
      · have bb2 : n ≤ k := (nI_leI (by omega) (by omega)).mp bb2
        omega
      · have bb2 : ¬ (n ≤ k) := fun h => bb2 ((nI_leI (by omega) (by omega)).mpr h)
        refine lv_aload_n hx hb dX3_firstStepOfHunk_12 rfl (lv_at hl 2 rfl) ?_
        refine lv_iload_n hx hb dX3_firstStepOfHunk_13 rfl (lv_at hl 0 rfl) ?_
        refine z_ciQ (wr := ([] : va_W)) (cx := ([(h, .inr (3, [.ref qk, .ref qf, .ref qt, .ref qv, .int (nI n)])), (qk, .inl (cI, 240, .inl K)), (qf, .inl (cI, 240, .inl F)), (qt, .inl (cI, 240, .inl G)), (qv, .inl (cI, 240, .inl V))] : va_W)) hP hD hS hA [0, 1, 2, 3, 4] [] rfl rfl (by decide) (by decide) (va_runV (As := [.int (nI k)]) (rest := []) ⟨hx, hb, hml, hown, hz⟩ (c_Script_opensHunk l dC dI cI cJ cR h qk qf qt qv K F G V (nI n) k (by omega) H.size) (cwV 1 hz (zgV zw_193 zw_195 zw_0 zw_25 zw_196) rfl rfl rfl (by decide +kernel) ⟨Nat.le_of_ble_eq_true rfl, Nat.le_of_ble_eq_true rfl⟩) ⟨zP_blind, z_recv hK hP (ci := 3) rfl rfl (q0 := 0) rfl, z_preQ hK hN hP hD [0, 1, 2, 3, 4] rfl (by decide)⟩ rfl rfl hl.1 rfl (lv_room (Nat.le_of_ble_eq_true rfl)) dX3_firstStepOfHunk_14 ⟨Nat.le_of_ble_eq_true rfl, Nat.le_of_ble_eq_true rfl⟩) (fun r w1 H locs hw hP hD hS => ?_)
        obtain ⟨hr, hw⟩ := hw
        subst hw
        have hP : va_P (dC, dI) vwCl (([(h, .inr (3, [.ref qk, .ref qf, .ref qt, .ref qv, .int (nI n)])), (qk, .inl (cI, 240, .inl K)), (qf, .inl (cI, 240, .inl F)), (qt, .inl (cI, 240, .inl G)), (qv, .inl (cI, 240, .inl V))] : va_W) ++ ([] : va_W)) H := hP
        have hD : va_D A (([(h, .inr (3, [.ref qk, .ref qf, .ref qt, .ref qv, .int (nI n)])), (qk, .inl (cI, 240, .inl K)), (qf, .inl (cI, 240, .inl F)), (qt, .inl (cI, 240, .inl G)), (qv, .inl (cI, 240, .inl V))] : va_W) ++ ([] : va_W)) := hD
        refine lv_if_eq (tgt := 30) hx hb dX3_firstStepOfHunk_17 (by decide) (fun c2 => ?_) (fun c2 => ?_)
        · have hop : ¬ opn K k := fun z => by rw [hr, if_pos z] at c2; exact absurd c2 (by decide)
          refine lv_iinc (v := nI (k + 1)) (lv' := [(3, .int (nI (k + 1))), (2, .int (nI (hnk K k))), (0, .ref h), (1, .int x)]) hx hb dX3_firstStepOfHunk_30 hl (k := 0) rfl (show nI k + 1 = nI (k + 1) from nI_1 _) (by decide) rfl (fun ls hl => ?_)
          refine lv_goto (tgt := 4) hx hb dX3_firstStepOfHunk_33 (by decide) ?_
          exact ih (k + 1) _ _ ls (by omega) (lt_s ha (fun z => absurd z hop)) hP hD hS (by rw [hnk_no hop]; exact (lv_sub hl [0, 1, 2, 3] rfl))
        · have hop : opn K k := by by_cases z : opn K k; exact z; exact absurd (by rw [hr, if_neg z]) c2
          refine lv_iload_n hx hb dX3_firstStepOfHunk_20 rfl (lv_at hl 1 rfl) ?_
          refine lv_iload_n hx hb dX3_firstStepOfHunk_21 rfl (lv_at hl 3 rfl) ?_
          refine lv_icmp_ne (tgt := 27) hx hb dX3_firstStepOfHunk_22 (by decide) (fun c3 => ?_) (fun c3 => ?_)
          · refine lv_iinc (v := nI (hnk K k + 1)) (lv' := [(2, .int (nI (hnk K k + 1))), (3, .int (nI k)), (0, .ref h), (1, .int x)]) hx hb dX3_firstStepOfHunk_27 hl (k := 1) rfl (show nI (hnk K k) + 1 = nI (hnk K k + 1) from nI_1 _) (by decide) rfl (fun ls hl => ?_)
            refine lv_iinc (v := nI (k + 1)) (lv' := [(3, .int (nI (k + 1))), (2, .int (nI (hnk K k + 1))), (0, .ref h), (1, .int x)]) hx hb dX3_firstStepOfHunk_30 hl (k := 1) rfl (show nI k + 1 = nI (k + 1) from nI_1 _) (by decide) rfl (fun ls hl => ?_)
            refine lv_goto (tgt := 4) hx hb dX3_firstStepOfHunk_33 (by decide) ?_
            exact ih (k + 1) _ _ ls (by omega) (lt_s ha (fun _ z => c3 z.symm)) hP hD hS (by rw [hnk_yes hop]; exact (lv_sub hl [0, 1, 2, 3] rfl))
          · refine lv_iload_n hx hb dX3_firstStepOfHunk_25 rfl (lv_at hl 0 rfl) ?_
            exact hret H locs _ ([(h, .inr (3, [.ref qk, .ref qf, .ref qt, .ref qv, .int (nI n)])), (qk, .inl (cI, 240, .inl K)), (qf, .inl (cI, 240, .inl F)), (qt, .inl (cI, 240, .inl G)), (qv, .inl (cI, 240, .inl V))] : va_W) _ ls hP hD hS dX3_firstStepOfHunk_26 ⟨Or.inl ⟨k, by omega, hop, c3.symm, rfl⟩, rfl⟩
  exact L1 n 0 _ _ ls (by omega) (fun j hj => absurd hj (Nat.not_lt_zero j)) hP hD hS (lv_sub hl [0, 1, 2, 3] rfl)

set_option maxHeartbeats 4000000 in
set_option maxRecDepth 100000 in
theorem c_Script_first0 (l : Launch) (dC : Nat → ClassId) (dI : Nat → Nat → Nat) (cI cJ cR : ClassId) (h qk qf qt qv : Nat) (K F G V : Nat → Int32) (x : Int32) : zI l (dC, dI) vwCl (zT cI cJ cR) zNW yX3_firstStepOfHunk wsX3_firstStepOfHunk rm_X3_firstStepOfHunk [.ref h, .int x] ([(h, .inr (3, [.ref qk, .ref qf, .ref qt, .ref qv, .int (-1)])), (qk, .inl (cI, 240, .inl K)), (qf, .inl (cI, 240, .inl F)), (qt, .inl (cI, 240, .inl G)), (qv, .inl (cI, 240, .inl V))] : va_W) (fun r w => r = -1 ∧ w = ([(h, .inr (3, [.ref qk, .ref qf, .ref qt, .ref qv, .int (-1)])), (qk, .inl (cI, 240, .inl K)), (qf, .inl (cI, 240, .inl F)), (qt, .inl (cI, 240, .inl G)), (qv, .inl (cI, 240, .inl V))] : va_W)) := by
  refine z_ofI (cc := cX3_firstStepOfHunk) (maxL := 4) (Or.inl rfl) (by decide) rfl (Nat.le_of_ble_eq_true rfl) ?_
  intro p e s m args below meth c A Q ls hI hret
  obtain ⟨hx, hb, hml, hown, hts, hnm, hA, hK, hN, hP, hD, hS, hl⟩ := hI
  have hown : s.vm.findClass RX3 = some m.cls := hown
  have hl : lv_has ls 4 [(0, .ref h), (1, .int x)] := hl
  have hP : va_P (dC, dI) vwCl (([(h, .inr (3, [.ref qk, .ref qf, .ref qt, .ref qv, .int (-1)])), (qk, .inl (cI, 240, .inl K)), (qf, .inl (cI, 240, .inl F)), (qt, .inl (cI, 240, .inl G)), (qv, .inl (cI, 240, .inl V))] : va_W) ++ ([] : va_W)) s.heap := hP
  have hD : va_D A (([(h, .inr (3, [.ref qk, .ref qf, .ref qt, .ref qv, .int (-1)])), (qk, .inl (cI, 240, .inl K)), (qf, .inl (cI, 240, .inl F)), (qt, .inl (cI, 240, .inl G)), (qv, .inl (cI, 240, .inl V))] : va_W) ++ ([] : va_W)) := hD
  have hz : ∀ w ∈ zW, w.before args s = true := fun w h => hts w (List.mem_cons_of_mem _ h)
  refine lv_iconst (v := nI 0) hx hb dX3_firstStepOfHunk_0 (by decide) ?_
  refine lv_istore_n (lv' := [(2, .int (nI 0)), (0, .ref h), (1, .int x)]) hx hb dX3_firstStepOfHunk_1 rfl hl (by decide) rfl (fun ls hl => ?_)
  refine lv_iconst (v := nI 0) hx hb dX3_firstStepOfHunk_2 (by decide) ?_
  refine lv_istore_n (lv' := [(3, .int (nI 0)), (2, .int (nI 0)), (0, .ref h), (1, .int x)]) hx hb dX3_firstStepOfHunk_3 rfl hl (by decide) rfl (fun ls hl => ?_)
  refine lv_iload_n hx hb dX3_firstStepOfHunk_4 rfl (lv_at hl 0 rfl) ?_
  refine lv_aload_n hx hb dX3_firstStepOfHunk_5 rfl (lv_at hl 2 rfl) ?_
  refine va_get (D := (dC, dI)) (ci := 3) (v := .int (-1)) (C := RX3) (T := TX3) (N := 5) hx hb hz hinX3 hown hK hP 0 rfl rfl 4 (by decide) (hz _ zw_95) (fun _ h9 => h9) rfl dX3_firstStepOfHunk_6 ?_
  refine lv_icmp_ge (tgt := 36) hx hb dX3_firstStepOfHunk_9 (by decide) (fun c1 => ?_) (fun c1 => ?_)
  · refine lv_iconst (v := (-1)) hx hb dX3_firstStepOfHunk_36 (by decide) ?_
    exact hret s.heap [] _ ([(h, .inr (3, [.ref qk, .ref qf, .ref qt, .ref qv, .int (-1)])), (qk, .inl (cI, 240, .inl K)), (qf, .inl (cI, 240, .inl F)), (qt, .inl (cI, 240, .inl G)), (qv, .inl (cI, 240, .inl V))] : va_W) _ ls hP hD hS dX3_firstStepOfHunk_37 ⟨rfl, rfl⟩
  · exact absurd (show (-1 : Int32) ≤ nI 0 by decide) c1

abbrev rm_X3_countInHunk : Room := { frames := 0, cells := 0, slots := 0, locals := 0 }
set_option maxHeartbeats 4000000 in
set_option maxRecDepth 100000 in
theorem c_Script_countIn (l : Launch) (dC : Nat → ClassId) (dI : Nat → Nat → Nat) (cI cJ cR : ClassId) (h qk qf qt qv : Nat) (K F G V : Nat → Int32) (n a : Nat) (x : Int32) (hn : n ≤ 240) (ha : a ≤ n) : zI l (dC, dI) vwCl (zT cI cJ cR) zNW yX3_countInHunk wsX3_countInHunk rm_X3_countInHunk [.ref h, .int (nI a), .int x] ([(h, .inr (3, [.ref qk, .ref qf, .ref qt, .ref qv, .int (nI n)])), (qk, .inl (cI, 240, .inl K)), (qf, .inl (cI, 240, .inl F)), (qt, .inl (cI, 240, .inl G)), (qv, .inl (cI, 240, .inl V))] : va_W) (fun r w => r = nI (cin K n x (n - a) a) ∧ w = ([(h, .inr (3, [.ref qk, .ref qf, .ref qt, .ref qv, .int (nI n)])), (qk, .inl (cI, 240, .inl K)), (qf, .inl (cI, 240, .inl F)), (qt, .inl (cI, 240, .inl G)), (qv, .inl (cI, 240, .inl V))] : va_W)) := by
  refine z_ofI (cc := cX3_countInHunk) (maxL := 5) (Or.inl rfl) (by decide) rfl (Nat.le_of_ble_eq_true rfl) ?_
  intro p e s m args below meth c A Q ls hI hret
  obtain ⟨hx, hb, hml, hown, hts, hnm, hA, hK, hN, hP, hD, hS, hl⟩ := hI
  have hown : s.vm.findClass RX3 = some m.cls := hown
  have hl : lv_has ls 5 [(0, .ref h), (1, .int (nI a)), (2, .int x)] := hl
  have hP : va_P (dC, dI) vwCl (([(h, .inr (3, [.ref qk, .ref qf, .ref qt, .ref qv, .int (nI n)])), (qk, .inl (cI, 240, .inl K)), (qf, .inl (cI, 240, .inl F)), (qt, .inl (cI, 240, .inl G)), (qv, .inl (cI, 240, .inl V))] : va_W) ++ ([] : va_W)) s.heap := hP
  have hD : va_D A (([(h, .inr (3, [.ref qk, .ref qf, .ref qt, .ref qv, .int (nI n)])), (qk, .inl (cI, 240, .inl K)), (qf, .inl (cI, 240, .inl F)), (qt, .inl (cI, 240, .inl G)), (qv, .inl (cI, 240, .inl V))] : va_W) ++ ([] : va_W)) := hD
  have hz : ∀ w ∈ zW, w.before args s = true := fun w h => hts w (List.mem_cons_of_mem _ h)
  refine lv_iconst (v := nI 0) hx hb dX3_countInHunk_0 (by decide) ?_
  refine lv_istore_n (lv' := [(3, .int (nI 0)), (0, .ref h), (1, .int (nI a)), (2, .int x)]) hx hb dX3_countInHunk_1 rfl hl (by decide) rfl (fun ls hl => ?_)
  refine lv_iload_n hx hb dX3_countInHunk_2 rfl (lv_at hl 2 rfl) ?_
  refine lv_istore (lv' := [(4, .int (nI a)), (3, .int (nI 0)), (0, .ref h), (1, .int (nI a)), (2, .int x)]) hx hb dX3_countInHunk_3 hl (by decide) rfl (fun ls hl => ?_)
  have L1 : ∀ (d : Nat) (k : Nat) (t : Nat) (H : Heap) (locs : List Loc) (ls : Array Slot), k + d = n → t ≤ k → cin K n x (n - a) a = t + cin K n x d k → va_P (dC, dI) vwCl (([(h, .inr (3, [.ref qk, .ref qf, .ref qt, .ref qv, .int (nI n)])), (qk, .inl (cI, 240, .inl K)), (qf, .inl (cI, 240, .inl F)), (qt, .inl (cI, 240, .inl G)), (qv, .inl (cI, 240, .inl V))] : va_W) ++ ([] : va_W)) H → va_D A (([(h, .inr (3, [.ref qk, .ref qf, .ref qt, .ref qv, .int (nI n)])), (qk, .inl (cI, 240, .inl K)), (qf, .inl (cI, 240, .inl F)), (qt, .inl (cI, 240, .inl G)), (qv, .inl (cI, 240, .inl V))] : va_W) ++ ([] : va_W)) → va_S A s.heap H locs → lv_has ls 5 [(4, .int (nI k)), (3, .int (nI t)), (0, .ref h), (1, .int (nI a)), (2, .int x)] → W p l e rm_X3_countInHunk s m args below meth c H locs 0 0 Q (F0 m 5 ls []) := by
    intro d
    induction d with
    | zero =>
      intro k t H locs ls hk htk ht hP hD hS hl
      have hk : k = n := hk
      refine lv_iload hx hb dX3_countInHunk_5 (lv_at hl 0 rfl) ?_
      refine lv_aload_n hx hb dX3_countInHunk_7 rfl (lv_at hl 2 rfl) ?_
      refine va_get (D := (dC, dI)) (ci := 3) (v := .int (nI n)) (C := RX3) (T := TX3) (N := 5) hx hb hz hinX3 hown hK hP 0 rfl rfl 4 (by decide) (hz _ zw_95) (fun _ h9 => h9) rfl dX3_countInHunk_8 ?_
      refine lv_icmp_ge (tgt := 44) hx hb dX3_countInHunk_11 (by decide) (fun bb1 => ?_) (fun bb1 => ?_)
      · have bb1 : n ≤ k := (nI_leI (by omega) (by omega)).mp bb1
        refine lv_iload_n hx hb dX3_countInHunk_44 rfl (lv_at hl 1 rfl) ?_
        exact hret H locs _ ([(h, .inr (3, [.ref qk, .ref qf, .ref qt, .ref qv, .int (nI n)])), (qk, .inl (cI, 240, .inl K)), (qf, .inl (cI, 240, .inl F)), (qt, .inl (cI, 240, .inl G)), (qv, .inl (cI, 240, .inl V))] : va_W) _ ls hP hD hS dX3_countInHunk_45 ⟨by rw [ht]; rfl, rfl⟩
      · have bb1 : ¬ (n ≤ k) := fun h => bb1 ((nI_leI (by omega) (by omega)).mpr h)
        omega
    | succ d ih =>
      intro k t H locs ls hk htk ht hP hD hS hl
      refine lv_iload hx hb dX3_countInHunk_5 (lv_at hl 0 rfl) ?_
      refine lv_aload_n hx hb dX3_countInHunk_7 rfl (lv_at hl 2 rfl) ?_
      refine va_get (D := (dC, dI)) (ci := 3) (v := .int (nI n)) (C := RX3) (T := TX3) (N := 5) hx hb hz hinX3 hown hK hP 0 rfl rfl 4 (by decide) (hz _ zw_95) (fun _ h9 => h9) rfl dX3_countInHunk_8 ?_
      refine lv_icmp_ge (tgt := 44) hx hb dX3_countInHunk_11 (by decide) (fun bb2 => ?_) (fun bb2 => ?_)
      · have bb2 : n ≤ k := (nI_leI (by omega) (by omega)).mp bb2
        omega
      · have bb2 : ¬ (n ≤ k) := fun h => bb2 ((nI_leI (by omega) (by omega)).mpr h)
        refine lv_aload_n hx hb dX3_countInHunk_14 rfl (lv_at hl 2 rfl) ?_
        refine va_get (D := (dC, dI)) (ci := 3) (v := .ref qk) (C := RX3) (T := TX3) (N := 5) hx hb hz hinX3 hown hK hP 0 rfl rfl 0 (by decide) (hz _ zw_86) (fun _ h9 => h9) rfl dX3_countInHunk_15 ?_
        refine lv_iload hx hb dX3_countInHunk_18 (lv_at hl 0 rfl) ?_
        refine z_iald (v := K k) hx hb hK hP 1 0 rfl rfl (k := k) (by omega) (by omega) rfl dX3_countInHunk_20 ?_
        refine lv_if_eq (tgt := 44) hx hb dX3_countInHunk_21 (by decide) (fun c2 => ?_) (fun c2 => ?_)
        · refine lv_iload_n hx hb dX3_countInHunk_44 rfl (lv_at hl 1 rfl) ?_
          exact hret H locs _ ([(h, .inr (3, [.ref qk, .ref qf, .ref qt, .ref qv, .int (nI n)])), (qk, .inl (cI, 240, .inl K)), (qf, .inl (cI, 240, .inl F)), (qt, .inl (cI, 240, .inl G)), (qv, .inl (cI, 240, .inl V))] : va_W) _ ls hP hD hS dX3_countInHunk_45 ⟨by rw [ht, cin_end (Or.inr c2)]; rfl, rfl⟩
        · refine lv_aload_n hx hb dX3_countInHunk_24 rfl (lv_at hl 2 rfl) ?_
          refine va_get (D := (dC, dI)) (ci := 3) (v := .ref qk) (C := RX3) (T := TX3) (N := 5) hx hb hz hinX3 hown hK hP 0 rfl rfl 0 (by decide) (hz _ zw_86) (fun _ h9 => h9) rfl dX3_countInHunk_25 ?_
          refine lv_iload hx hb dX3_countInHunk_28 (lv_at hl 0 rfl) ?_
          refine z_iald (v := K k) hx hb hK hP 1 0 rfl rfl (k := k) (by omega) (by omega) rfl dX3_countInHunk_30 ?_
          refine lv_iload_n hx hb dX3_countInHunk_31 rfl (lv_at hl 4 rfl) ?_
          refine lv_icmp_ne (tgt := 38) hx hb dX3_countInHunk_32 (by decide) (fun c3 => ?_) (fun c3 => ?_)
          · refine lv_iinc (v := nI (k + 1)) (lv' := [(4, .int (nI (k + 1))), (3, .int (nI t)), (0, .ref h), (1, .int (nI a)), (2, .int x)]) hx hb dX3_countInHunk_38 hl (k := 0) rfl (show nI k + 1 = nI (k + 1) from nI_1 _) (by decide) rfl (fun ls hl => ?_)
            refine lv_goto (tgt := 5) hx hb dX3_countInHunk_41 (by decide) ?_
            exact ih (k + 1) t _ _ ls (by omega) (by omega) (by rw [ht, cin_no c2 c3 (by omega)]) hP hD hS (lv_sub hl [0, 1, 2, 3, 4] rfl)
          · refine lv_iinc (v := nI (t + 1)) (lv' := [(3, .int (nI (t + 1))), (4, .int (nI k)), (0, .ref h), (1, .int (nI a)), (2, .int x)]) hx hb dX3_countInHunk_35 hl (k := 1) rfl (show nI t + 1 = nI (t + 1) from nI_1 _) (by decide) rfl (fun ls hl => ?_)
            refine lv_iinc (v := nI (k + 1)) (lv' := [(4, .int (nI (k + 1))), (3, .int (nI (t + 1))), (0, .ref h), (1, .int (nI a)), (2, .int x)]) hx hb dX3_countInHunk_38 hl (k := 1) rfl (show nI k + 1 = nI (k + 1) from nI_1 _) (by decide) rfl (fun ls hl => ?_)
            refine lv_goto (tgt := 5) hx hb dX3_countInHunk_41 (by decide) ?_
            exact ih (k + 1) (t + 1) _ _ ls (by omega) (by omega) (by rw [ht, cin_yes c2 c3 (by omega)]; omega) hP hD hS (lv_sub hl [0, 1, 2, 3, 4] rfl)
  exact L1 (n - a) a 0 _ _ ls (by omega) (by omega) (by omega) hP hD hS (lv_sub hl [0, 1, 2, 3, 4] rfl)

abbrev rm_X3_endOfInserts : Room := { frames := 0, cells := 0, slots := 0, locals := 0 }
set_option maxHeartbeats 4000000 in
set_option maxRecDepth 100000 in
theorem c_Script_eoi (l : Launch) (dC : Nat → ClassId) (dI : Nat → Nat → Nat) (cI cJ cR : ClassId) (h qk qf qt qv : Nat) (K F G V : Nat → Int32) (n a : Nat) (hn : n ≤ 240) (ha : a ≤ n) : zI l (dC, dI) vwCl (zT cI cJ cR) zNW yX3_endOfInserts wsX3_endOfInserts rm_X3_endOfInserts [.ref h, .int (nI a)] ([(h, .inr (3, [.ref qk, .ref qf, .ref qt, .ref qv, .int (nI n)])), (qk, .inl (cI, 240, .inl K)), (qf, .inl (cI, 240, .inl F)), (qt, .inl (cI, 240, .inl G)), (qv, .inl (cI, 240, .inl V))] : va_W) (fun r w => r = nI (eiF K (n - a) a) ∧ w = ([(h, .inr (3, [.ref qk, .ref qf, .ref qt, .ref qv, .int (nI n)])), (qk, .inl (cI, 240, .inl K)), (qf, .inl (cI, 240, .inl F)), (qt, .inl (cI, 240, .inl G)), (qv, .inl (cI, 240, .inl V))] : va_W)) := by
  refine z_ofI (cc := cX3_endOfInserts) (maxL := 3) (Or.inl rfl) (by decide) rfl (Nat.le_of_ble_eq_true rfl) ?_
  intro p e s m args below meth c A Q ls hI hret
  obtain ⟨hx, hb, hml, hown, hts, hnm, hA, hK, hN, hP, hD, hS, hl⟩ := hI
  have hown : s.vm.findClass RX3 = some m.cls := hown
  have hl : lv_has ls 3 [(0, .ref h), (1, .int (nI a))] := hl
  have hP : va_P (dC, dI) vwCl (([(h, .inr (3, [.ref qk, .ref qf, .ref qt, .ref qv, .int (nI n)])), (qk, .inl (cI, 240, .inl K)), (qf, .inl (cI, 240, .inl F)), (qt, .inl (cI, 240, .inl G)), (qv, .inl (cI, 240, .inl V))] : va_W) ++ ([] : va_W)) s.heap := hP
  have hD : va_D A (([(h, .inr (3, [.ref qk, .ref qf, .ref qt, .ref qv, .int (nI n)])), (qk, .inl (cI, 240, .inl K)), (qf, .inl (cI, 240, .inl F)), (qt, .inl (cI, 240, .inl G)), (qv, .inl (cI, 240, .inl V))] : va_W) ++ ([] : va_W)) := hD
  have hz : ∀ w ∈ zW, w.before args s = true := fun w h => hts w (List.mem_cons_of_mem _ h)
  refine lv_iload_n hx hb dX3_endOfInserts_0 rfl (lv_at hl 1 rfl) ?_
  refine lv_istore_n (lv' := [(2, .int (nI a)), (0, .ref h), (1, .int (nI a))]) hx hb dX3_endOfInserts_1 rfl hl (by decide) rfl (fun ls hl => ?_)
  have L1 : ∀ (d : Nat) (k : Nat) (H : Heap) (locs : List Loc) (ls : Array Slot), k + d = n → eiF K (n - a) a = eiF K d k → va_P (dC, dI) vwCl (([(h, .inr (3, [.ref qk, .ref qf, .ref qt, .ref qv, .int (nI n)])), (qk, .inl (cI, 240, .inl K)), (qf, .inl (cI, 240, .inl F)), (qt, .inl (cI, 240, .inl G)), (qv, .inl (cI, 240, .inl V))] : va_W) ++ ([] : va_W)) H → va_D A (([(h, .inr (3, [.ref qk, .ref qf, .ref qt, .ref qv, .int (nI n)])), (qk, .inl (cI, 240, .inl K)), (qf, .inl (cI, 240, .inl F)), (qt, .inl (cI, 240, .inl G)), (qv, .inl (cI, 240, .inl V))] : va_W) ++ ([] : va_W)) → va_S A s.heap H locs → lv_has ls 3 [(2, .int (nI k)), (0, .ref h), (1, .int (nI a))] → W p l e rm_X3_endOfInserts s m args below meth c H locs 0 0 Q (F0 m 2 ls []) := by
    intro d
    induction d with
    | zero =>
      intro k H locs ls hk he hP hD hS hl
      have hk : k = n := hk
      refine lv_iload_n hx hb dX3_endOfInserts_2 rfl (lv_at hl 0 rfl) ?_
      refine lv_aload_n hx hb dX3_endOfInserts_3 rfl (lv_at hl 1 rfl) ?_
      refine va_get (D := (dC, dI)) (ci := 3) (v := .int (nI n)) (C := RX3) (T := TX3) (N := 5) hx hb hz hinX3 hown hK hP 0 rfl rfl 4 (by decide) (hz _ zw_95) (fun _ h9 => h9) rfl dX3_endOfInserts_4 ?_
      refine lv_icmp_ge (tgt := 26) hx hb dX3_endOfInserts_7 (by decide) (fun bb1 => ?_) (fun bb1 => ?_)
      · have bb1 : n ≤ k := (nI_leI (by omega) (by omega)).mp bb1
        refine lv_iload_n hx hb dX3_endOfInserts_26 rfl (lv_at hl 0 rfl) ?_
        exact hret H locs _ ([(h, .inr (3, [.ref qk, .ref qf, .ref qt, .ref qv, .int (nI n)])), (qk, .inl (cI, 240, .inl K)), (qf, .inl (cI, 240, .inl F)), (qt, .inl (cI, 240, .inl G)), (qv, .inl (cI, 240, .inl V))] : va_W) _ ls hP hD hS dX3_endOfInserts_27 ⟨by rw [he]; rfl, rfl⟩
      · have bb1 : ¬ (n ≤ k) := fun h => bb1 ((nI_leI (by omega) (by omega)).mpr h)
        omega
    | succ d ih =>
      intro k H locs ls hk he hP hD hS hl
      refine lv_iload_n hx hb dX3_endOfInserts_2 rfl (lv_at hl 0 rfl) ?_
      refine lv_aload_n hx hb dX3_endOfInserts_3 rfl (lv_at hl 1 rfl) ?_
      refine va_get (D := (dC, dI)) (ci := 3) (v := .int (nI n)) (C := RX3) (T := TX3) (N := 5) hx hb hz hinX3 hown hK hP 0 rfl rfl 4 (by decide) (hz _ zw_95) (fun _ h9 => h9) rfl dX3_endOfInserts_4 ?_
      refine lv_icmp_ge (tgt := 26) hx hb dX3_endOfInserts_7 (by decide) (fun bb2 => ?_) (fun bb2 => ?_)
      · have bb2 : n ≤ k := (nI_leI (by omega) (by omega)).mp bb2
        omega
      · have bb2 : ¬ (n ≤ k) := fun h => bb2 ((nI_leI (by omega) (by omega)).mpr h)
        refine lv_aload_n hx hb dX3_endOfInserts_10 rfl (lv_at hl 1 rfl) ?_
        refine va_get (D := (dC, dI)) (ci := 3) (v := .ref qk) (C := RX3) (T := TX3) (N := 5) hx hb hz hinX3 hown hK hP 0 rfl rfl 0 (by decide) (hz _ zw_86) (fun _ h9 => h9) rfl dX3_endOfInserts_11 ?_
        refine lv_iload_n hx hb dX3_endOfInserts_14 rfl (lv_at hl 0 rfl) ?_
        refine z_iald (v := K k) hx hb hK hP 1 0 rfl rfl (k := k) (by omega) (by omega) rfl dX3_endOfInserts_15 ?_
        refine lv_iconst (v := nI 2) hx hb dX3_endOfInserts_16 (by decide) ?_
        refine lv_icmp_ne (tgt := 26) hx hb dX3_endOfInserts_17 (by decide) (fun c2 => ?_) (fun c2 => ?_)
        · refine lv_iload_n hx hb dX3_endOfInserts_26 rfl (lv_at hl 0 rfl) ?_
          exact hret H locs _ ([(h, .inr (3, [.ref qk, .ref qf, .ref qt, .ref qv, .int (nI n)])), (qk, .inl (cI, 240, .inl K)), (qf, .inl (cI, 240, .inl F)), (qt, .inl (cI, 240, .inl G)), (qv, .inl (cI, 240, .inl V))] : va_W) _ ls hP hD hS dX3_endOfInserts_27 ⟨by rw [he, eiF_end c2], rfl⟩
        · refine lv_iinc (v := nI (k + 1)) (lv' := [(2, .int (nI (k + 1))), (0, .ref h), (1, .int (nI a))]) hx hb dX3_endOfInserts_20 hl (k := 0) rfl (show nI k + 1 = nI (k + 1) from nI_1 _) (by decide) rfl (fun ls hl => ?_)
          refine lv_goto (tgt := 2) hx hb dX3_endOfInserts_23 (by decide) ?_
          exact ih (k + 1) _ _ ls (by omega) (by rw [he, eiF_on c2]) hP hD hS (lv_sub hl [0, 1, 2] rfl)
  exact L1 (n - a) a _ _ ls (by omega) rfl hP hD hS (lv_sub hl [0, 1, 2] rfl)

abbrev rm_X3_erasesAt : Room := { frames := 0, cells := 0, slots := 0, locals := 0 }
set_option maxHeartbeats 4000000 in
set_option maxRecDepth 100000 in
theorem c_Script_erasesAt (l : Launch) (dC : Nat → ClassId) (dI : Nat → Nat → Nat) (cI cJ cR : ClassId) (h qk qf qt qv : Nat) (K F G V : Nat → Int32) (n k : Nat) (hn : n ≤ 240) (hk : k ≤ 240) : zI l (dC, dI) vwCl (zT cI cJ cR) zNW yX3_erasesAt wsX3_erasesAt rm_X3_erasesAt [.ref h, .int (nI k)] ([(h, .inr (3, [.ref qk, .ref qf, .ref qt, .ref qv, .int (nI n)])), (qk, .inl (cI, 240, .inl K)), (qf, .inl (cI, 240, .inl F)), (qt, .inl (cI, 240, .inl G)), (qv, .inl (cI, 240, .inl V))] : va_W) (fun r w => (r = if k < n ∧ K k = nI 1 then 1 else 0) ∧ w = ([(h, .inr (3, [.ref qk, .ref qf, .ref qt, .ref qv, .int (nI n)])), (qk, .inl (cI, 240, .inl K)), (qf, .inl (cI, 240, .inl F)), (qt, .inl (cI, 240, .inl G)), (qv, .inl (cI, 240, .inl V))] : va_W)) := by
  refine z_ofI (cc := cX3_erasesAt) (maxL := 2) (rt := .boolean) (Or.inr ⟨rfl, (fun v w h => by rw [h.1]; split <;> decide)⟩) (by decide) rfl (Nat.le_of_ble_eq_true rfl) ?_
  intro p e s m args below meth c A Q ls hI hret
  obtain ⟨hx, hb, hml, hown, hts, hnm, hA, hK, hN, hP, hD, hS, hl⟩ := hI
  have hown : s.vm.findClass RX3 = some m.cls := hown
  have hl : lv_has ls 2 [(0, .ref h), (1, .int (nI k))] := hl
  have hP : va_P (dC, dI) vwCl (([(h, .inr (3, [.ref qk, .ref qf, .ref qt, .ref qv, .int (nI n)])), (qk, .inl (cI, 240, .inl K)), (qf, .inl (cI, 240, .inl F)), (qt, .inl (cI, 240, .inl G)), (qv, .inl (cI, 240, .inl V))] : va_W) ++ ([] : va_W)) s.heap := hP
  have hD : va_D A (([(h, .inr (3, [.ref qk, .ref qf, .ref qt, .ref qv, .int (nI n)])), (qk, .inl (cI, 240, .inl K)), (qf, .inl (cI, 240, .inl F)), (qt, .inl (cI, 240, .inl G)), (qv, .inl (cI, 240, .inl V))] : va_W) ++ ([] : va_W)) := hD
  have hz : ∀ w ∈ zW, w.before args s = true := fun w h => hts w (List.mem_cons_of_mem _ h)
  refine lv_iload_n hx hb dX3_erasesAt_0 rfl (lv_at hl 1 rfl) ?_
  refine lv_aload_n hx hb dX3_erasesAt_1 rfl (lv_at hl 0 rfl) ?_
  refine va_get (D := (dC, dI)) (ci := 3) (v := .int (nI n)) (C := RX3) (T := TX3) (N := 5) hx hb hz hinX3 hown hK hP 0 rfl rfl 4 (by decide) (hz _ zw_95) (fun _ h9 => h9) rfl dX3_erasesAt_2 ?_
  refine lv_icmp_ge (tgt := 22) hx hb dX3_erasesAt_5 (by decide) (fun bb1 => ?_) (fun bb1 => ?_)
  · have bb1 : n ≤ k := (nI_leI (by omega) (by omega)).mp bb1
    refine lv_iconst (v := nI 0) hx hb dX3_erasesAt_22 (by decide) ?_
    exact hret s.heap [] _ ([(h, .inr (3, [.ref qk, .ref qf, .ref qt, .ref qv, .int (nI n)])), (qk, .inl (cI, 240, .inl K)), (qf, .inl (cI, 240, .inl F)), (qt, .inl (cI, 240, .inl G)), (qv, .inl (cI, 240, .inl V))] : va_W) _ ls hP hD hS dX3_erasesAt_23 ⟨by rw [if_neg (by omega)]; decide, rfl⟩
  · have bb1 : ¬ (n ≤ k) := fun h => bb1 ((nI_leI (by omega) (by omega)).mpr h)
    refine lv_aload_n hx hb dX3_erasesAt_8 rfl (lv_at hl 0 rfl) ?_
    refine va_get (D := (dC, dI)) (ci := 3) (v := .ref qk) (C := RX3) (T := TX3) (N := 5) hx hb hz hinX3 hown hK hP 0 rfl rfl 0 (by decide) (hz _ zw_86) (fun _ h9 => h9) rfl dX3_erasesAt_9 ?_
    refine lv_iload_n hx hb dX3_erasesAt_12 rfl (lv_at hl 1 rfl) ?_
    refine z_iald (v := K k) hx hb hK hP 1 0 rfl rfl (k := k) (by omega) (by omega) rfl dX3_erasesAt_13 ?_
    refine lv_iconst (v := nI 1) hx hb dX3_erasesAt_14 (by decide) ?_
    refine lv_icmp_ne (tgt := 22) hx hb dX3_erasesAt_15 (by decide) (fun c2 => ?_) (fun c2 => ?_)
    · refine lv_iconst (v := nI 0) hx hb dX3_erasesAt_22 (by decide) ?_
      exact hret s.heap [] _ ([(h, .inr (3, [.ref qk, .ref qf, .ref qt, .ref qv, .int (nI n)])), (qk, .inl (cI, 240, .inl K)), (qf, .inl (cI, 240, .inl F)), (qt, .inl (cI, 240, .inl G)), (qv, .inl (cI, 240, .inl V))] : va_W) _ ls hP hD hS dX3_erasesAt_23 ⟨by rw [if_neg (fun z => c2 z.2)]; decide, rfl⟩
    · refine lv_iconst (v := nI 1) hx hb dX3_erasesAt_18 (by decide) ?_
      refine lv_goto (tgt := 23) hx hb dX3_erasesAt_19 (by decide) ?_
      exact hret s.heap [] _ ([(h, .inr (3, [.ref qk, .ref qf, .ref qt, .ref qv, .int (nI n)])), (qk, .inl (cI, 240, .inl K)), (qf, .inl (cI, 240, .inl F)), (qt, .inl (cI, 240, .inl G)), (qv, .inl (cI, 240, .inl V))] : va_W) _ ls hP hD hS dX3_erasesAt_23 ⟨by rw [if_pos ⟨by omega, c2⟩]; decide, rfl⟩

abbrev rm_X3_spells : Room := { frames := 0, cells := 0, slots := 0, locals := 0 }
set_option maxHeartbeats 4000000 in
set_option maxRecDepth 100000 in
theorem c_Script_spells (l : Launch) (dC : Nat → ClassId) (dI : Nat → Nat → Nat) (cI cJ cR : ClassId) (h qk qf qt qv : Nat) (K F G V : Nat → Int32) (Rw : va_W) (j hr q m0 : Nat) (f : Nat → Int32) (n : Nat) (x : Int32) (hn : n ≤ 240) (hm0 : m0 ≤ 120) (hj : j + 1 < Rw.length) : zI l (dC, dI) vwCl (zT cI cJ cR) zNW yX3_spells wsX3_spells rm_X3_spells [.ref h, .ref hr, .int x] (([(h, .inr (3, [.ref qk, .ref qf, .ref qt, .ref qv, .int (nI n)])), (qk, .inl (cI, 240, .inl K)), (qf, .inl (cI, 240, .inl F)), (qt, .inl (cI, 240, .inl G)), (qv, .inl (cI, 240, .inl V))] : va_W) ++ rA cI Rw j hr q m0 f) (fun r w => (r = if plc K x n = m0 ∧ ∀ k, k < n → K k ≠ x → plc K x k < m0 ∧ f (plc K x k) = V k then 1 else 0) ∧ w = (([(h, .inr (3, [.ref qk, .ref qf, .ref qt, .ref qv, .int (nI n)])), (qk, .inl (cI, 240, .inl K)), (qf, .inl (cI, 240, .inl F)), (qt, .inl (cI, 240, .inl G)), (qv, .inl (cI, 240, .inl V))] : va_W) ++ rA cI Rw j hr q m0 f)) := by
  refine z_ofI (cc := cX3_spells) (maxL := 5) (rt := .boolean) (Or.inr ⟨rfl, (fun v w h => by rw [h.1]; split <;> decide)⟩) (by decide) rfl (Nat.le_of_ble_eq_true rfl) ?_
  intro p e s m args below meth c A Q ls hI hret
  obtain ⟨hx, hb, hml, hown, hts, hnm, hA, hK, hN, hP, hD, hS, hl⟩ := hI
  have hown : s.vm.findClass RX3 = some m.cls := hown
  have hl : lv_has ls 5 [(0, .ref h), (1, .ref hr), (2, .int x)] := hl
  have hP : va_P (dC, dI) vwCl (([(h, .inr (3, [.ref qk, .ref qf, .ref qt, .ref qv, .int (nI n)])), (qk, .inl (cI, 240, .inl K)), (qf, .inl (cI, 240, .inl F)), (qt, .inl (cI, 240, .inl G)), (qv, .inl (cI, 240, .inl V))] : va_W) ++ rA cI Rw j hr q m0 f) s.heap := hP
  have hD : va_D A (([(h, .inr (3, [.ref qk, .ref qf, .ref qt, .ref qv, .int (nI n)])), (qk, .inl (cI, 240, .inl K)), (qf, .inl (cI, 240, .inl F)), (qt, .inl (cI, 240, .inl G)), (qv, .inl (cI, 240, .inl V))] : va_W) ++ rA cI Rw j hr q m0 f) := hD
  have hz : ∀ w ∈ zW, w.before args s = true := fun w h => hts w (List.mem_cons_of_mem _ h)
  refine lv_iconst (v := nI 0) hx hb dX3_spells_0 (by decide) ?_
  refine lv_istore_n (lv' := [(3, .int (nI 0)), (0, .ref h), (1, .ref hr), (2, .int x)]) hx hb dX3_spells_1 rfl hl (by decide) rfl (fun ls hl => ?_)
  refine lv_iconst (v := nI 0) hx hb dX3_spells_2 (by decide) ?_
  refine lv_istore (lv' := [(4, .int (nI 0)), (3, .int (nI 0)), (0, .ref h), (1, .ref hr), (2, .int x)]) hx hb dX3_spells_3 hl (by decide) rfl (fun ls hl => ?_)
  have L1 : ∀ (d : Nat) (k : Nat) (H : Heap) (locs : List Loc) (ls : Array Slot), k + d = n → (∀ i, i < k → K i ≠ x → plc K x i < m0 ∧ f (plc K x i) = V i) → va_P (dC, dI) vwCl (([(h, .inr (3, [.ref qk, .ref qf, .ref qt, .ref qv, .int (nI n)])), (qk, .inl (cI, 240, .inl K)), (qf, .inl (cI, 240, .inl F)), (qt, .inl (cI, 240, .inl G)), (qv, .inl (cI, 240, .inl V))] : va_W) ++ rA cI Rw j hr q m0 f) H → va_D A (([(h, .inr (3, [.ref qk, .ref qf, .ref qt, .ref qv, .int (nI n)])), (qk, .inl (cI, 240, .inl K)), (qf, .inl (cI, 240, .inl F)), (qt, .inl (cI, 240, .inl G)), (qv, .inl (cI, 240, .inl V))] : va_W) ++ rA cI Rw j hr q m0 f) → va_S A s.heap H locs → lv_has ls 5 [(4, .int (nI k)), (3, .int (nI (plc K x k))), (0, .ref h), (1, .ref hr), (2, .int x)] → W p l e rm_X3_spells s m args below meth c H locs 0 0 Q (F0 m 5 ls []) := by
    intro d
    induction d with
    | zero =>
      intro k H locs ls hk ha hP hD hS hl
      have hk : k = n := hk
      have hb1 := plc_le (K := K) (x := x) k
      refine lv_iload hx hb dX3_spells_5 (lv_at hl 0 rfl) ?_
      refine lv_aload_n hx hb dX3_spells_7 rfl (lv_at hl 2 rfl) ?_
      refine va_get (D := (dC, dI)) (ci := 3) (v := .int (nI n)) (C := RX3) (T := TX3) (N := 5) hx hb hz hinX3 hown hK hP 0 rfl rfl 4 (by decide) (hz _ zw_95) (fun _ h9 => h9) rfl dX3_spells_8 ?_
      refine lv_icmp_ge (tgt := 60) hx hb dX3_spells_11 (by decide) (fun bb1 => ?_) (fun bb1 => ?_)
      · have bb1 : n ≤ k := (nI_leI (by omega) (by omega)).mp bb1
        refine lv_iload_n hx hb dX3_spells_60 rfl (lv_at hl 1 rfl) ?_
        refine lv_aload_n hx hb dX3_spells_61 rfl (lv_at hl 3 rfl) ?_
        refine va_getN (D := (dC, dI)) (ci := 2) (v := .int (nI m0)) (C := RX2) (T := TX2) (N := 2) hx hb hz hinX2 hown hK hP _ (z_right (rA_o hj)) rfl 1 (by decide) (hN.use _ zn_59) (fun _ h9 => h9) rfl dX3_spells_62 ?_
        refine lv_icmp_ne (tgt := 72) hx hb dX3_spells_65 (by decide) (fun c3 => ?_) (fun c3 => ?_)
        · have c3 : ¬ ((plc K x k) = m0) := fun h => c3 ((nI_eq (by omega) (by omega)).mpr h)
          refine lv_iconst (v := nI 0) hx hb dX3_spells_72 (by decide) ?_
          exact hret H locs _ (([(h, .inr (3, [.ref qk, .ref qf, .ref qt, .ref qv, .int (nI n)])), (qk, .inl (cI, 240, .inl K)), (qf, .inl (cI, 240, .inl F)), (qt, .inl (cI, 240, .inl G)), (qv, .inl (cI, 240, .inl V))] : va_W) ++ rA cI Rw j hr q m0 f) _ ls hP hD hS dX3_spells_73 ⟨by rw [if_neg (fun z => c3 (by rw [hk]; exact z.1))]; decide, rfl⟩
        · have c3 : (plc K x k) = m0 := (nI_eq (by omega) (by omega)).mp c3
          refine lv_iconst (v := nI 1) hx hb dX3_spells_68 (by decide) ?_
          refine lv_goto (tgt := 73) hx hb dX3_spells_69 (by decide) ?_
          exact hret H locs _ (([(h, .inr (3, [.ref qk, .ref qf, .ref qt, .ref qv, .int (nI n)])), (qk, .inl (cI, 240, .inl K)), (qf, .inl (cI, 240, .inl F)), (qt, .inl (cI, 240, .inl G)), (qv, .inl (cI, 240, .inl V))] : va_W) ++ rA cI Rw j hr q m0 f) _ ls hP hD hS dX3_spells_73 ⟨by rw [if_pos ⟨by rw [← hk]; exact c3, fun i hi => ha i (by omega)⟩]; decide, rfl⟩
      · have bb1 : ¬ (n ≤ k) := fun h => bb1 ((nI_leI (by omega) (by omega)).mpr h)
        omega
    | succ d ih =>
      intro k H locs ls hk ha hP hD hS hl
      have hb1 := plc_le (K := K) (x := x) k
      refine lv_iload hx hb dX3_spells_5 (lv_at hl 0 rfl) ?_
      refine lv_aload_n hx hb dX3_spells_7 rfl (lv_at hl 2 rfl) ?_
      refine va_get (D := (dC, dI)) (ci := 3) (v := .int (nI n)) (C := RX3) (T := TX3) (N := 5) hx hb hz hinX3 hown hK hP 0 rfl rfl 4 (by decide) (hz _ zw_95) (fun _ h9 => h9) rfl dX3_spells_8 ?_
      refine lv_icmp_ge (tgt := 60) hx hb dX3_spells_11 (by decide) (fun bb2 => ?_) (fun bb2 => ?_)
      · have bb2 : n ≤ k := (nI_leI (by omega) (by omega)).mp bb2
        omega
      · have bb2 : ¬ (n ≤ k) := fun h => bb2 ((nI_leI (by omega) (by omega)).mpr h)
        refine lv_aload_n hx hb dX3_spells_14 rfl (lv_at hl 2 rfl) ?_
        refine va_get (D := (dC, dI)) (ci := 3) (v := .ref qk) (C := RX3) (T := TX3) (N := 5) hx hb hz hinX3 hown hK hP 0 rfl rfl 0 (by decide) (hz _ zw_86) (fun _ h9 => h9) rfl dX3_spells_15 ?_
        refine lv_iload hx hb dX3_spells_18 (lv_at hl 0 rfl) ?_
        refine z_iald (v := K k) hx hb hK hP 1 0 rfl rfl (k := k) (by omega) (by omega) rfl dX3_spells_20 ?_
        refine lv_iload_n hx hb dX3_spells_21 rfl (lv_at hl 4 rfl) ?_
        refine lv_icmp_eq (tgt := 54) hx hb dX3_spells_22 (by decide) (fun c2 => ?_) (fun c2 => ?_)
        · refine lv_iinc (v := nI (k + 1)) (lv' := [(4, .int (nI (k + 1))), (3, .int (nI (plc K x k))), (0, .ref h), (1, .ref hr), (2, .int x)]) hx hb dX3_spells_54 hl (k := 0) rfl (show nI k + 1 = nI (k + 1) from nI_1 _) (by decide) rfl (fun ls hl => ?_)
          refine lv_goto (tgt := 5) hx hb dX3_spells_57 (by decide) ?_
          exact ih (k + 1) _ _ ls (by omega) (lt_s ha (fun z => absurd c2 z)) hP hD hS (by rw [plc_no c2]; exact (lv_sub hl [0, 1, 2, 3, 4] rfl))
        · refine lv_iload_n hx hb dX3_spells_25 rfl (lv_at hl 1 rfl) ?_
          refine lv_aload_n hx hb dX3_spells_26 rfl (lv_at hl 3 rfl) ?_
          refine va_getN (D := (dC, dI)) (ci := 2) (v := .int (nI m0)) (C := RX2) (T := TX2) (N := 2) hx hb hz hinX2 hown hK hP _ (z_right (rA_o hj)) rfl 1 (by decide) (hN.use _ zn_59) (fun _ h9 => h9) rfl dX3_spells_27 ?_
          refine lv_icmp_ge (tgt := 49) hx hb dX3_spells_30 (by decide) (fun c3 => ?_) (fun c3 => ?_)
          · have c3 : m0 ≤ (plc K x k) := (nI_leI (by omega) (by omega)).mp c3
            refine lv_iconst (v := nI 0) hx hb dX3_spells_49 (by decide) ?_
            exact hret H locs _ (([(h, .inr (3, [.ref qk, .ref qf, .ref qt, .ref qv, .int (nI n)])), (qk, .inl (cI, 240, .inl K)), (qf, .inl (cI, 240, .inl F)), (qt, .inl (cI, 240, .inl G)), (qv, .inl (cI, 240, .inl V))] : va_W) ++ rA cI Rw j hr q m0 f) _ ls hP hD hS dX3_spells_50 ⟨by rw [if_neg (fun z => by have := (z.2 k (by omega) c2).1; omega)]; decide, rfl⟩
          · have c3 : ¬ (m0 ≤ (plc K x k)) := fun h => c3 ((nI_leI (by omega) (by omega)).mpr h)
            refine lv_aload_n hx hb dX3_spells_33 rfl (lv_at hl 3 rfl) ?_
            refine va_getN (D := (dC, dI)) (ci := 2) (v := .ref q) (C := RX2) (T := TX2) (N := 2) hx hb hz hinX2 hown hK hP _ (z_right (rA_o hj)) rfl 0 (by decide) (hN.use _ zn_54) (fun _ h9 => h9) rfl dX3_spells_34 ?_
            refine lv_iload_n hx hb dX3_spells_37 rfl (lv_at hl 1 rfl) ?_
            refine z_iald (v := f (plc K x k)) hx hb hK hP _ 0 (z_right (rA_a hj)) rfl (k := (plc K x k)) (by omega) (by omega) rfl dX3_spells_38 ?_
            refine lv_aload_n hx hb dX3_spells_39 rfl (lv_at hl 2 rfl) ?_
            refine va_get (D := (dC, dI)) (ci := 3) (v := .ref qv) (C := RX3) (T := TX3) (N := 5) hx hb hz hinX3 hown hK hP 0 rfl rfl 3 (by decide) (hz _ zw_92) (fun _ h9 => h9) rfl dX3_spells_40 ?_
            refine lv_iload hx hb dX3_spells_43 (lv_at hl 0 rfl) ?_
            refine z_iald (v := V k) hx hb hK hP 4 0 rfl rfl (k := k) (by omega) (by omega) rfl dX3_spells_45 ?_
            refine lv_icmp_eq (tgt := 51) hx hb dX3_spells_46 (by decide) (fun c4 => ?_) (fun c4 => ?_)
            · refine lv_iinc (v := nI (plc K x k + 1)) (lv' := [(3, .int (nI (plc K x k + 1))), (4, .int (nI k)), (0, .ref h), (1, .ref hr), (2, .int x)]) hx hb dX3_spells_51 hl (k := 1) rfl (show nI (plc K x k) + 1 = nI (plc K x k + 1) from nI_1 _) (by decide) rfl (fun ls hl => ?_)
              refine lv_iinc (v := nI (k + 1)) (lv' := [(4, .int (nI (k + 1))), (3, .int (nI (plc K x k + 1))), (0, .ref h), (1, .ref hr), (2, .int x)]) hx hb dX3_spells_54 hl (k := 1) rfl (show nI k + 1 = nI (k + 1) from nI_1 _) (by decide) rfl (fun ls hl => ?_)
              refine lv_goto (tgt := 5) hx hb dX3_spells_57 (by decide) ?_
              exact ih (k + 1) _ _ ls (by omega) (lt_s ha (fun _ => ⟨by omega, c4⟩)) hP hD hS (by rw [plc_yes c2]; exact (lv_sub hl [0, 1, 2, 3, 4] rfl))
            · refine lv_iconst (v := nI 0) hx hb dX3_spells_49 (by decide) ?_
              exact hret H locs _ (([(h, .inr (3, [.ref qk, .ref qf, .ref qt, .ref qv, .int (nI n)])), (qk, .inl (cI, 240, .inl K)), (qf, .inl (cI, 240, .inl F)), (qt, .inl (cI, 240, .inl G)), (qv, .inl (cI, 240, .inl V))] : va_W) ++ rA cI Rw j hr q m0 f) _ ls hP hD hS dX3_spells_50 ⟨by rw [if_neg (fun z => c4 (z.2 k (by omega) c2).2)]; decide, rfl⟩
  exact L1 n 0 _ _ ls (by omega) (fun i hi => absurd hi (Nat.not_lt_zero i)) hP hD hS (lv_sub hl [0, 1, 2, 3, 4] rfl)

abbrev rm_X3_spellInto : Room := { frames := 1, cells := 0, slots := 0, locals := 21 }
set_option maxHeartbeats 4000000 in
set_option maxRecDepth 100000 in
theorem c_Script_spellInto (l : Launch) (dC : Nat → ClassId) (dI : Nat → Nat → Nat) (cI cJ cR : ClassId) (h qk qf qt qv : Nat) (K F G V : Nat → Int32) (Rw : va_W) (j hr q m0 : Nat) (f : Nat → Int32) (n : Nat) (x : Int32) (hn : n ≤ 240) (hm0 : plc K x n ≤ 120) (hj : j + 1 < Rw.length) : zV l (dC, dI) vwCl (zT cI cJ cR) zNW yX3_spellInto wsX3_spellInto rm_X3_spellInto [.ref h, .ref hr, .int x] (([(h, .inr (3, [.ref qk, .ref qf, .ref qt, .ref qv, .int (nI n)])), (qk, .inl (cI, 240, .inl K)), (qf, .inl (cI, 240, .inl F)), (qt, .inl (cI, 240, .inl G)), (qv, .inl (cI, 240, .inl V))] : va_W) ++ rA cI Rw j hr q m0 f) (fun w => ∃ f' : Nat → Int32, (∀ k, k < n → K k ≠ x → f' (plc K x k) = V k) ∧ w = (([(h, .inr (3, [.ref qk, .ref qf, .ref qt, .ref qv, .int (nI n)])), (qk, .inl (cI, 240, .inl K)), (qf, .inl (cI, 240, .inl F)), (qt, .inl (cI, 240, .inl G)), (qv, .inl (cI, 240, .inl V))] : va_W) ++ rA cI Rw j hr q (plc K x n) f')) := by
  refine z_ofV (cc := cX3_spellInto) (maxL := 4) (by decide) rfl (Nat.le_of_ble_eq_true rfl) ?_
  intro p e s m args below meth c A Q ls hI hret
  obtain ⟨hx, hb, hml, hown, hts, hnm, hA, hK, hN, hP, hD, hS, hl⟩ := hI
  have hown : s.vm.findClass RX3 = some m.cls := hown
  have hl : lv_has ls 4 [(0, .ref h), (1, .ref hr), (2, .int x)] := hl
  have hP : va_P (dC, dI) vwCl (([(h, .inr (3, [.ref qk, .ref qf, .ref qt, .ref qv, .int (nI n)])), (qk, .inl (cI, 240, .inl K)), (qf, .inl (cI, 240, .inl F)), (qt, .inl (cI, 240, .inl G)), (qv, .inl (cI, 240, .inl V))] : va_W) ++ rA cI Rw j hr q m0 f) s.heap := hP
  have hD : va_D A (([(h, .inr (3, [.ref qk, .ref qf, .ref qt, .ref qv, .int (nI n)])), (qk, .inl (cI, 240, .inl K)), (qf, .inl (cI, 240, .inl F)), (qt, .inl (cI, 240, .inl G)), (qv, .inl (cI, 240, .inl V))] : va_W) ++ rA cI Rw j hr q m0 f) := hD
  have hz : ∀ w ∈ zW, w.before args s = true := fun w h => hts w (List.mem_cons_of_mem _ h)
  refine lv_aload_n hx hb dX3_spellInto_0 rfl (lv_at hl 1 rfl) ?_
  refine z_cvP (wr := ([(h, .inr (3, [.ref qk, .ref qf, .ref qt, .ref qv, .int (nI n)])), (qk, .inl (cI, 240, .inl K)), (qf, .inl (cI, 240, .inl F)), (qt, .inl (cI, 240, .inl G)), (qv, .inl (cI, 240, .inl V))] : va_W)) (cx := ([] : va_W)) hP hD hS hA [] [0, 1, 2, 3, 4] rfl rfl (by decide) (by decide) (va_runV (As := []) (rest := []) ⟨hx, hb, hml, hown, hz⟩ (c_Row_empty l dC dI cI cJ cR Rw j hr q m0 f hj s.heap.size) (cwV 0 hz (zgV zw_404 zw_174 zw_175 zw_23 zw_176) rfl rfl rfl (by decide +kernel) ⟨Nat.le_of_ble_eq_true rfl, Nat.le_of_ble_eq_true rfl⟩) ⟨zP_blind, z_recv hK hP (ci := 2) rfl rfl (z_right (rA_o hj)), z_preP hK hN hP hD [] rfl (by decide)⟩ rfl rfl hl.1 rfl (lv_room (Nat.le_of_ble_eq_true rfl)) dX3_spellInto_1 ⟨Nat.le_of_ble_eq_true rfl, Nat.le_of_ble_eq_true rfl⟩) (fun w1 H locs hw hjn hS => ?_)
  obtain ⟨hP, hD⟩ := hjn ([] : va_W) (rA cI Rw j hr q 0 f) hw
  have hP : va_P (dC, dI) vwCl (([(h, .inr (3, [.ref qk, .ref qf, .ref qt, .ref qv, .int (nI n)])), (qk, .inl (cI, 240, .inl K)), (qf, .inl (cI, 240, .inl F)), (qt, .inl (cI, 240, .inl G)), (qv, .inl (cI, 240, .inl V))] : va_W) ++ (rA cI Rw j hr q 0 f)) H := hP
  have hD : va_D A (([(h, .inr (3, [.ref qk, .ref qf, .ref qt, .ref qv, .int (nI n)])), (qk, .inl (cI, 240, .inl K)), (qf, .inl (cI, 240, .inl F)), (qt, .inl (cI, 240, .inl G)), (qv, .inl (cI, 240, .inl V))] : va_W) ++ (rA cI Rw j hr q 0 f)) := hD
  refine lv_iconst (v := nI 0) hx hb dX3_spellInto_4 (by decide) ?_
  refine lv_istore_n (lv' := [(3, .int (nI 0)), (0, .ref h), (1, .ref hr), (2, .int x)]) hx hb dX3_spellInto_5 rfl hl (by decide) rfl (fun ls hl => ?_)
  have L1 : ∀ (d : Nat) (k : Nat) (g : Nat → Int32) (H : Heap) (locs : List Loc) (ls : Array Slot), k + d = n → (∀ i, i < k → K i ≠ x → g (plc K x i) = V i) → va_P (dC, dI) vwCl (([(h, .inr (3, [.ref qk, .ref qf, .ref qt, .ref qv, .int (nI n)])), (qk, .inl (cI, 240, .inl K)), (qf, .inl (cI, 240, .inl F)), (qt, .inl (cI, 240, .inl G)), (qv, .inl (cI, 240, .inl V))] : va_W) ++ rA cI Rw j hr q (plc K x k) g) H → va_D A (([(h, .inr (3, [.ref qk, .ref qf, .ref qt, .ref qv, .int (nI n)])), (qk, .inl (cI, 240, .inl K)), (qf, .inl (cI, 240, .inl F)), (qt, .inl (cI, 240, .inl G)), (qv, .inl (cI, 240, .inl V))] : va_W) ++ rA cI Rw j hr q (plc K x k) g) → va_S A s.heap H locs → lv_has ls 4 [(3, .int (nI k)), (0, .ref h), (1, .ref hr), (2, .int x)] → W p l e rm_X3_spellInto s m args below meth c H locs 0 0 Q (F0 m 6 ls []) := by
    intro d
    induction d with
    | zero =>
      intro k g H locs ls hk ha hP hD hS hl
      have hk : k = n := hk
      refine lv_iload_n hx hb dX3_spellInto_6 rfl (lv_at hl 0 rfl) ?_
      refine lv_aload_n hx hb dX3_spellInto_7 rfl (lv_at hl 1 rfl) ?_
      refine va_get (D := (dC, dI)) (ci := 3) (v := .int (nI n)) (C := RX3) (T := TX3) (N := 5) hx hb hz hinX3 hown hK hP 0 rfl rfl 4 (by decide) (hz _ zw_95) (fun _ h9 => h9) rfl dX3_spellInto_8 ?_
      refine lv_icmp_ge (tgt := 40) hx hb dX3_spellInto_11 (by decide) (fun bb1 => ?_) (fun bb1 => ?_)
      · have bb1 : n ≤ k := (nI_leI (by omega) (by omega)).mp bb1
        rw [hk] at hP hD
        exact hret H locs (([(h, .inr (3, [.ref qk, .ref qf, .ref qt, .ref qv, .int (nI n)])), (qk, .inl (cI, 240, .inl K)), (qf, .inl (cI, 240, .inl F)), (qt, .inl (cI, 240, .inl G)), (qv, .inl (cI, 240, .inl V))] : va_W) ++ rA cI Rw j hr q (plc K x n) g) _ ls hP hD hS dX3_spellInto_40 ⟨g, fun i hi => ha i (by omega), rfl⟩
      · have bb1 : ¬ (n ≤ k) := fun h => bb1 ((nI_leI (by omega) (by omega)).mpr h)
        omega
    | succ d ih =>
      intro k g H locs ls hk ha hP hD hS hl
      have hb1 := plc_mono (K := K) (x := x) (show k ≤ n by omega)
      refine lv_iload_n hx hb dX3_spellInto_6 rfl (lv_at hl 0 rfl) ?_
      refine lv_aload_n hx hb dX3_spellInto_7 rfl (lv_at hl 1 rfl) ?_
      refine va_get (D := (dC, dI)) (ci := 3) (v := .int (nI n)) (C := RX3) (T := TX3) (N := 5) hx hb hz hinX3 hown hK hP 0 rfl rfl 4 (by decide) (hz _ zw_95) (fun _ h9 => h9) rfl dX3_spellInto_8 ?_
      refine lv_icmp_ge (tgt := 40) hx hb dX3_spellInto_11 (by decide) (fun bb2 => ?_) (fun bb2 => ?_)
      · have bb2 : n ≤ k := (nI_leI (by omega) (by omega)).mp bb2
        omega
      · have bb2 : ¬ (n ≤ k) := fun h => bb2 ((nI_leI (by omega) (by omega)).mpr h)
        refine lv_aload_n hx hb dX3_spellInto_14 rfl (lv_at hl 1 rfl) ?_
        refine va_get (D := (dC, dI)) (ci := 3) (v := .ref qk) (C := RX3) (T := TX3) (N := 5) hx hb hz hinX3 hown hK hP 0 rfl rfl 0 (by decide) (hz _ zw_86) (fun _ h9 => h9) rfl dX3_spellInto_15 ?_
        refine lv_iload_n hx hb dX3_spellInto_18 rfl (lv_at hl 0 rfl) ?_
        refine z_iald (v := K k) hx hb hK hP 1 0 rfl rfl (k := k) (by omega) (by omega) rfl dX3_spellInto_19 ?_
        refine lv_iload_n hx hb dX3_spellInto_20 rfl (lv_at hl 3 rfl) ?_
        refine lv_icmp_eq (tgt := 34) hx hb dX3_spellInto_21 (by decide) (fun c2 => ?_) (fun c2 => ?_)
        · refine lv_iinc (v := nI (k + 1)) (lv' := [(3, .int (nI (k + 1))), (0, .ref h), (1, .ref hr), (2, .int x)]) hx hb dX3_spellInto_34 hl (k := 0) rfl (show nI k + 1 = nI (k + 1) from nI_1 _) (by decide) rfl (fun ls hl => ?_)
          refine lv_goto (tgt := 6) hx hb dX3_spellInto_37 (by decide) ?_
          rw [← plc_no c2] at hP hD
          exact ih (k + 1) g _ _ ls (by omega) (lt_s ha (fun z => absurd c2 z)) hP hD hS (lv_sub hl [0, 1, 2, 3] rfl)
        · have hb2 := plc_mono (K := K) (x := x) (show k + 1 ≤ n by omega)
          rw [plc_yes c2] at hb2
          refine lv_aload_n hx hb dX3_spellInto_24 rfl (lv_at hl 2 rfl) ?_
          refine lv_aload_n hx hb dX3_spellInto_25 rfl (lv_at hl 1 rfl) ?_
          refine va_get (D := (dC, dI)) (ci := 3) (v := .ref qv) (C := RX3) (T := TX3) (N := 5) hx hb hz hinX3 hown hK hP 0 rfl rfl 3 (by decide) (hz _ zw_92) (fun _ h9 => h9) rfl dX3_spellInto_26 ?_
          refine lv_iload_n hx hb dX3_spellInto_29 rfl (lv_at hl 0 rfl) ?_
          refine z_iald (v := V k) hx hb hK hP 4 0 rfl rfl (k := k) (by omega) (by omega) rfl dX3_spellInto_30 ?_
          refine z_cvP (wr := ([(h, .inr (3, [.ref qk, .ref qf, .ref qt, .ref qv, .int (nI n)])), (qk, .inl (cI, 240, .inl K)), (qf, .inl (cI, 240, .inl F)), (qt, .inl (cI, 240, .inl G)), (qv, .inl (cI, 240, .inl V))] : va_W)) (cx := ([] : va_W)) hP hD hS hA [] [0, 1, 2, 3, 4] rfl rfl (by decide) (by decide) (va_runV (As := [.int (V k)]) (rest := []) ⟨hx, hb, hml, hown, hz⟩ (c_Row_append l dC dI cI cJ cR Rw j hr q (plc K x k) g (V k) hj (by omega) H.size) (cwV 1 hz (zgV zw_405 zw_166 zw_167 zw_23 zw_168) rfl rfl rfl (by decide +kernel) ⟨Nat.le_of_ble_eq_true rfl, Nat.le_of_ble_eq_true rfl⟩) ⟨zP_blind, z_recv hK hP (ci := 2) rfl rfl (z_right (rA_o hj)), z_preP hK hN hP hD [] rfl (by decide)⟩ rfl rfl hl.1 rfl (lv_room (Nat.le_of_ble_eq_true rfl)) dX3_spellInto_31 ⟨Nat.le_of_ble_eq_true rfl, Nat.le_of_ble_eq_true rfl⟩) (fun w1 H locs hw hjn hS => ?_)
          rw [if_pos (by omega), if_pos (by omega)] at hw
          obtain ⟨hP, hD⟩ := hjn ([] : va_W) (rA cI Rw j hr q (plc K x k + 1) (upd g (plc K x k) (V k))) hw
          have hP : va_P (dC, dI) vwCl (([(h, .inr (3, [.ref qk, .ref qf, .ref qt, .ref qv, .int (nI n)])), (qk, .inl (cI, 240, .inl K)), (qf, .inl (cI, 240, .inl F)), (qt, .inl (cI, 240, .inl G)), (qv, .inl (cI, 240, .inl V))] : va_W) ++ (rA cI Rw j hr q (plc K x k + 1) (upd g (plc K x k) (V k)))) H := hP
          have hD : va_D A (([(h, .inr (3, [.ref qk, .ref qf, .ref qt, .ref qv, .int (nI n)])), (qk, .inl (cI, 240, .inl K)), (qf, .inl (cI, 240, .inl F)), (qt, .inl (cI, 240, .inl G)), (qv, .inl (cI, 240, .inl V))] : va_W) ++ (rA cI Rw j hr q (plc K x k + 1) (upd g (plc K x k) (V k)))) := hD
          refine lv_iinc (v := nI (k + 1)) (lv' := [(3, .int (nI (k + 1))), (0, .ref h), (1, .ref hr), (2, .int x)]) hx hb dX3_spellInto_34 hl (k := 0) rfl (show nI k + 1 = nI (k + 1) from nI_1 _) (by decide) rfl (fun ls hl => ?_)
          refine lv_goto (tgt := 6) hx hb dX3_spellInto_37 (by decide) ?_
          rw [← plc_yes c2] at hP hD
          exact ih (k + 1) _ _ _ ls (by omega) (fun i hi h9 => plc_put c2 ha i hi h9) hP hD hS (lv_sub hl [0, 1, 2, 3] rfl)
  exact L1 n 0 f _ _ ls (by omega) (fun i hi => absurd hi (Nat.not_lt_zero i)) hP hD hS (lv_sub hl [0, 1, 2, 3] rfl)
