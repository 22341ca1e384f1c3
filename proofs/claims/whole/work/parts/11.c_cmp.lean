abbrev rm_X0_init : Room := { frames := 1, cells := 2, slots := 361, locals := 20 }
set_option maxHeartbeats 4000000 in
set_option maxRecDepth 100000 in
theorem c_Cmp_init (l : Launch) (dC : Nat → ClassId) (dI : Nat → Nat → Nat) (cI cJ cR : ClassId) (h : Nat) : zV l (dC, dI) vwCl (zT cI cJ cR) zNW yX0_init wsX0_init rm_X0_init [.ref h] ([(h, .inr (0, [.null, .null]))] : va_W) (fun w => ∃ qr qe : Nat, w = ([(h, .inr (0, [.ref qr, .ref qe])), (qr, .inl (cI, 121, .inl (fun _ => 0))), (qe, .inl (cJ, 240, .inr (.inl (fun _ => 0))))] : va_W)) := by
  refine z_ofV (cc := cX0_init) (maxL := 1) (by decide) rfl (Nat.le_of_ble_eq_true rfl) ?_
  intro p e s m args below meth c A Q ls hI hret
  obtain ⟨hx, hb, hml, hown, hts, hnm, hA, hK, hN, hP, hD, hS, hl⟩ := hI
  have hown : s.vm.findClass RX0 = some m.cls := hown
  have hl : lv_has ls 1 [(0, .ref h)] := hl
  have hP : va_P (dC, dI) vwCl (([(h, .inr (0, [.null, .null]))] : va_W) ++ ([] : va_W)) s.heap := hP
  have hD : va_D A (([(h, .inr (0, [.null, .null]))] : va_W) ++ ([] : va_W)) := hD
  have hz : ∀ w ∈ zW, w.before args s = true := fun w h => hts w (List.mem_cons_of_mem _ h)
  have hin : meth.name = "<init>" := hnm
  refine lv_aload_n hx hb dX0_init_0 rfl (lv_at hl 0 rfl) ?_
  refine W.objInit hx hb hown (hz _ zw_71) (hz _ zw_41) (hz _ zw_42) rfl (by rw [hml]; exact hl.1) rfl dX0_init_1 (Nat.le_of_ble_eq_true rfl) (Nat.le_of_ble_eq_true rfl) ?_
  refine W.eq (g2 := F0 m 4 ls []) rfl ?_
  refine lv_aload_n hx hb dX0_init_4 rfl (lv_at hl 0 rfl) ?_
  refine lv_bipush (v := nI 121) hx hb dX0_init_5 (by decide) ?_
  refine z_newi hx hb (hz _ zw_65) hK hP hD hS hA 121 0 rfl (by decide) (Nat.le_of_ble_eq_true rfl) (Nat.le_of_ble_eq_true rfl) dX0_init_7 (fun q1 H hP hD hS => ?_)
  refine W.widen (k := 1) (n := 121) (by decide) (by decide) ?_
  have hP : va_P (dC, dI) vwCl (([(h, .inr (0, [.null, .null])), (q1, .inl (cI, 121, .inl (fun _ => 0)))] : va_W) ++ ([] : va_W)) H := hP
  have hD : va_D A (([(h, .inr (0, [.null, .null])), (q1, .inl (cI, 121, .inl (fun _ => 0)))] : va_W) ++ ([] : va_W)) := hD
  refine va_putF (D := (dC, dI)) (ci := 0) (v := .ref q1) (ty := .array .int) (C := RX0) (T := TX0) (N := 2) hx hb hz hinX0 tyX0 tyX0_ok nmX0 hown hK hP hD hS 0 rfl rfl 0 (by decide) (hz _ zw_72) (fun _ h9 => h9) rfl hin rfl (by decide +kernel) rfl rfl (Nat.le_of_ble_eq_true rfl) dX0_init_9 (fun H locs hP hD hS => ?_)
  have hP : va_P (dC, dI) vwCl (([(h, .inr (0, [.ref q1, .null])), (q1, .inl (cI, 121, .inl (fun _ => 0)))] : va_W) ++ ([] : va_W)) H := hP
  have hD : va_D A (([(h, .inr (0, [.ref q1, .null])), (q1, .inl (cI, 121, .inl (fun _ => 0)))] : va_W) ++ ([] : va_W)) := hD
  refine lv_aload_n hx hb dX0_init_12 rfl (lv_at hl 0 rfl) ?_
  refine lv_sipush (v := nI 240) hx hb dX0_init_13 (by decide) ?_
  refine z_newl hx hb (hz _ zw_79) hK hP hD hS hA 240 1 rfl (by decide) (Nat.le_of_ble_eq_true rfl) (Nat.le_of_ble_eq_true rfl) dX0_init_16 (fun q2 H hP hD hS => ?_)
  refine W.widen (k := 2) (n := 361) (by decide) (by decide) ?_
  have hP : va_P (dC, dI) vwCl (([(h, .inr (0, [.ref q1, .null])), (q1, .inl (cI, 121, .inl (fun _ => 0))), (q2, .inl (cJ, 240, .inr (.inl (fun _ => 0))))] : va_W) ++ ([] : va_W)) H := hP
  have hD : va_D A (([(h, .inr (0, [.ref q1, .null])), (q1, .inl (cI, 121, .inl (fun _ => 0))), (q2, .inl (cJ, 240, .inr (.inl (fun _ => 0))))] : va_W) ++ ([] : va_W)) := hD
  refine va_putF (D := (dC, dI)) (ci := 0) (v := .ref q2) (ty := .array .long) (C := RX0) (T := TX0) (N := 2) hx hb hz hinX0 tyX0 tyX0_ok nmX0 hown hK hP hD hS 0 rfl rfl 1 (by decide) (hz _ zw_73) (fun _ h9 => h9) rfl hin rfl (by decide +kernel) rfl rfl (Nat.le_of_ble_eq_true rfl) dX0_init_18 (fun H locs hP hD hS => ?_)
  have hP : va_P (dC, dI) vwCl (([(h, .inr (0, [.ref q1, .ref q2])), (q1, .inl (cI, 121, .inl (fun _ => 0))), (q2, .inl (cJ, 240, .inr (.inl (fun _ => 0))))] : va_W) ++ ([] : va_W)) H := hP
  have hD : va_D A (([(h, .inr (0, [.ref q1, .ref q2])), (q1, .inl (cI, 121, .inl (fun _ => 0))), (q2, .inl (cJ, 240, .inr (.inl (fun _ => 0))))] : va_W) ++ ([] : va_W)) := hD
  exact hret H locs ([(h, .inr (0, [.ref q1, .ref q2])), (q1, .inl (cI, 121, .inl (fun _ => 0))), (q2, .inl (cJ, 240, .inr (.inl (fun _ => 0))))] : va_W) _ ls hP hD hS dX0_init_21 ⟨q1, q2, rfl⟩

abbrev rm_X0_wordOf : Room := { frames := 0, cells := 0, slots := 0, locals := 0 }
set_option maxHeartbeats 4000000 in
set_option maxRecDepth 100000 in
theorem c_Cmp_wordOf (l : Launch) (dC : Nat → ClassId) (dI : Nat → Nat → Nat) (cI cJ cR : ClassId) (i j : Nat) (hi : i < 65536) (hj : j < 65536) : zI l (dC, dI) vwCl (zT cI cJ cR) zNW yX0_wordOf wsX0_wordOf rm_X0_wordOf [.int (nI i), .int (nI j)] ([] : va_W) (fun r w => r = nI (i * 2 + j / 64) ∧ w = []) := by
  refine z_ofI (cc := cX0_wordOf) (maxL := 2) (Or.inl rfl) (by decide) rfl (Nat.le_of_ble_eq_true rfl) ?_
  intro p e s m args below meth c A Q ls hI hret
  obtain ⟨hx, hb, hml, hown, hts, hnm, hA, hK, hN, hP, hD, hS, hl⟩ := hI
  have hown : s.vm.findClass RX0 = some m.cls := hown
  have hl : lv_has ls 2 [(0, .int (nI i)), (1, .int (nI j))] := hl
  have hP : va_P (dC, dI) vwCl (([] : va_W) ++ ([] : va_W)) s.heap := hP
  have hD : va_D A (([] : va_W) ++ ([] : va_W)) := hD
  have hz : ∀ w ∈ zW, w.before args s = true := fun w h => hts w (List.mem_cons_of_mem _ h)
  refine lv_iload_n hx hb dX0_wordOf_0 rfl (lv_at hl 0 rfl) ?_
  refine lv_iconst (v := nI 2) hx hb dX0_wordOf_1 (by decide) ?_
  refine t_imul hx hb dX0_wordOf_2 (show nI i * nI 2 = nI (i * 2) from (pk_mul _ _)) ?_
  refine lv_iload_n hx hb dX0_wordOf_3 rfl (lv_at hl 1 rfl) ?_
  refine lv_bipush (v := nI 6) hx hb dX0_wordOf_4 (by decide) ?_
  refine lv_ishr hx hb dX0_wordOf_6 ?_
  rw [show nI j >>> (nI 6 &&& 31) = nI (j / 64) from pk_shrN (by omega) _ 6 (by decide)]
  refine t_iadd hx hb dX0_wordOf_7 (show nI (i * 2) + nI (j / 64) = nI (i * 2 + (j / 64)) from (nI_add _ _)) ?_
  exact hret s.heap [] _ ([] : va_W) _ ls hP hD hS dX0_wordOf_8 ⟨rfl, rfl⟩

abbrev rm_X0_markErase : Room := { frames := 1, cells := 0, slots := 0, locals := 21 }
set_option maxHeartbeats 4000000 in
set_option maxRecDepth 100000 in
theorem c_Cmp_mark (l : Launch) (dC : Nat → ClassId) (dI : Nat → Nat → Nat) (cI cJ cR : ClassId) (hc qr qe : Nat) (rc : Nat → Int32) (eb : Nat → Int64) (i j : Nat) (x : Int32) (hi : i < 120) (hj : j < 120) : zV l (dC, dI) vwCl (zT cI cJ cR) zNW yX0_markErase wsX0_markErase rm_X0_markErase [.ref hc, .int (nI i), .int (nI j), .int x] ([(hc, .inr (0, [.ref qr, .ref qe])), (qr, .inl (cI, 121, .inl rc)), (qe, .inl (cJ, 240, .inr (.inl eb)))] : va_W) (fun w => ∃ eb' : Nat → Int64, (∀ i' j', j' < 128 → zb eb' i' j' = if i' = i ∧ j' = j then decide (x ≠ 0) else zb eb i' j') ∧ w = ([(hc, .inr (0, [.ref qr, .ref qe])), (qr, .inl (cI, 121, .inl rc)), (qe, .inl (cJ, 240, .inr (.inl eb')))] : va_W)) := by
  refine z_ofV (cc := cX0_markErase) (maxL := 7) (by decide) rfl (Nat.le_of_ble_eq_true rfl) ?_
  intro p e s m args below meth c A Q ls hI hret
  obtain ⟨hx, hb, hml, hown, hts, hnm, hA, hK, hN, hP, hD, hS, hl⟩ := hI
  have hown : s.vm.findClass RX0 = some m.cls := hown
  have hl : lv_has ls 7 [(0, .ref hc), (1, .int (nI i)), (2, .int (nI j)), (3, .int x)] := hl
  have hP : va_P (dC, dI) vwCl (([(hc, .inr (0, [.ref qr, .ref qe])), (qr, .inl (cI, 121, .inl rc)), (qe, .inl (cJ, 240, .inr (.inl eb)))] : va_W) ++ ([] : va_W)) s.heap := hP
  have hD : va_D A (([(hc, .inr (0, [.ref qr, .ref qe])), (qr, .inl (cI, 121, .inl rc)), (qe, .inl (cJ, 240, .inr (.inl eb)))] : va_W) ++ ([] : va_W)) := hD
  have hz : ∀ w ∈ zW, w.before args s = true := fun w h => hts w (List.mem_cons_of_mem _ h)
  refine lv_iload_n hx hb dX0_markErase_0 rfl (lv_at hl 1 rfl) ?_
  refine lv_iload_n hx hb dX0_markErase_1 rfl (lv_at hl 2 rfl) ?_
  refine z_ciQ (wr := ([(hc, .inr (0, [.ref qr, .ref qe])), (qr, .inl (cI, 121, .inl rc)), (qe, .inl (cJ, 240, .inr (.inl eb)))] : va_W)) (cx := ([] : va_W)) hP hD hS hA [] [0, 1, 2] rfl rfl (by decide) (by decide) (va_runS (As := [.int (nI i), .int (nI j)]) (rest := []) ⟨hx, hb, hml, hown, hz⟩ (c_Cmp_wordOf l dC dI cI cJ cR i j (by omega) (by omega) s.heap.size) (cwS 2 hz (zgS zw_306 zw_307 zw_24 zw_308) rfl rfl rfl (by decide +kernel) ⟨Nat.le_of_ble_eq_true rfl, Nat.le_of_ble_eq_true rfl⟩) ⟨zP_blind, z_preQ hK hN hP hD [] rfl (by decide)⟩ rfl rfl hl.1 rfl (lv_room (Nat.le_of_ble_eq_true rfl)) dX0_markErase_2 ⟨Nat.le_of_ble_eq_true rfl, Nat.le_of_ble_eq_true rfl⟩) (fun r w1 H locs hw hP hD hS => ?_)
  obtain ⟨rfl, hw⟩ := hw
  subst hw
  have hP : va_P (dC, dI) vwCl (([(hc, .inr (0, [.ref qr, .ref qe])), (qr, .inl (cI, 121, .inl rc)), (qe, .inl (cJ, 240, .inr (.inl eb)))] : va_W) ++ ([] : va_W)) H := hP
  have hD : va_D A (([(hc, .inr (0, [.ref qr, .ref qe])), (qr, .inl (cI, 121, .inl rc)), (qe, .inl (cJ, 240, .inr (.inl eb)))] : va_W) ++ ([] : va_W)) := hD
  refine lv_istore (lv' := [(4, .int (nI (i * 2 + j / 64))), (0, .ref hc), (1, .int (nI i)), (2, .int (nI j)), (3, .int x)]) hx hb dX0_markErase_5 hl (by decide) rfl (fun ls hl => ?_)
  refine lv_lconst (v := 1) hx hb dX0_markErase_7 (by decide) ?_
  refine lv_iload_n hx hb dX0_markErase_8 rfl (lv_at hl 3 rfl) ?_
  refine lv_bipush (v := nI 63) hx hb dX0_markErase_9 (by decide) ?_
  refine lv_iand hx hb dX0_markErase_11 ?_
  rw [show nI j &&& nI 63 = nI (j % 64) from pk_andN (by omega) 6 (by decide)]
  refine lv_lshl hx hb dX0_markErase_12 rfl ?_
  refine lv_topl (fun bt ebt => ?_)
  have hbt : bt.toBitVec = BitVec.twoPow 64 (j % 64) := by rw [ebt]; exact zb_one _ (Nat.mod_lt _ (by decide))
  refine lv_lstore (lv' := [(5, .long bt), (4, .int (nI (i * 2 + j / 64))), (0, .ref hc), (1, .int (nI i)), (2, .int (nI j)), (3, .int x)]) hx hb dX0_markErase_13 hl (by decide) rfl (fun ls hl => ?_)
  refine lv_aload_n hx hb dX0_markErase_15 rfl (lv_at hl 2 rfl) ?_
  refine va_get (D := (dC, dI)) (ci := 0) (v := .ref qe) (C := RX0) (T := TX0) (N := 2) hx hb hz hinX0 hown hK hP 0 rfl rfl 1 (by decide) (hz _ zw_73) (fun _ h9 => h9) rfl dX0_markErase_16 ?_
  refine lv_iload hx hb dX0_markErase_19 (lv_at hl 1 rfl) ?_
  refine lv_iload_n hx hb dX0_markErase_21 rfl (lv_at hl 5 rfl) ?_
  refine lv_if_eq (tgt := 38) hx hb dX0_markErase_22 (by decide) (fun c1 => ?_) (fun c1 => ?_)
  · refine lv_aload_n hx hb dX0_markErase_38 rfl (lv_at hl 2 rfl) ?_
    refine va_get (D := (dC, dI)) (ci := 0) (v := .ref qe) (C := RX0) (T := TX0) (N := 2) hx hb hz hinX0 hown hK hP 0 rfl rfl 1 (by decide) (hz _ zw_73) (fun _ h9 => h9) rfl dX0_markErase_39 ?_
    refine lv_iload hx hb dX0_markErase_42 (lv_at hl 1 rfl) ?_
    refine z_lald (v := eb (i * 2 + j / 64)) hx hb hK hP 2 1 rfl rfl (k := (i * 2 + j / 64)) (by omega) (by omega) rfl dX0_markErase_44 ?_
    refine lv_lload hx hb dX0_markErase_45 (lv_at hl 0 rfl) ?_
    refine lv_ldc2 (v := -1) hx hb hown (hz _ zw_309) dX0_markErase_47 ?_
    refine lv_lxor hx hb dX0_markErase_50 ?_
    refine lv_land hx hb dX0_markErase_51 ?_
    refine z_last hx hb hK hP hD hS 2 1 rfl rfl (k := (i * 2 + j / 64)) (by omega) (by omega) dX0_markErase_52 (fun H locs hP hD hS => ?_)
    have hP : va_P (dC, dI) vwCl (([(hc, .inr (0, [.ref qr, .ref qe])), (qr, .inl (cI, 121, .inl rc)), (qe, .inl (cJ, 240, .inr (.inl (vp_updL eb (i * 2 + j / 64) ((eb (i * 2 + j / 64)) &&& (bt ^^^ (-1)))))))] : va_W) ++ ([] : va_W)) H := hP
    have hD : va_D A (([(hc, .inr (0, [.ref qr, .ref qe])), (qr, .inl (cI, 121, .inl rc)), (qe, .inl (cJ, 240, .inr (.inl (vp_updL eb (i * 2 + j / 64) ((eb (i * 2 + j / 64)) &&& (bt ^^^ (-1)))))))] : va_W) ++ ([] : va_W)) := hD
    exact hret H locs ([(hc, .inr (0, [.ref qr, .ref qe])), (qr, .inl (cI, 121, .inl rc)), (qe, .inl (cJ, 240, .inr (.inl (vp_updL eb (i * 2 + j / 64) ((eb (i * 2 + j / 64)) &&& (bt ^^^ (-1)))))))] : va_W) _ ls hP hD hS dX0_markErase_53 ⟨_, fun i' j' hj' => by rw [zb_clear hbt (by omega) hj', show decide (x ≠ 0) = false from decide_eq_false (fun z => z c1)], rfl⟩
  · refine lv_aload_n hx hb dX0_markErase_25 rfl (lv_at hl 2 rfl) ?_
    refine va_get (D := (dC, dI)) (ci := 0) (v := .ref qe) (C := RX0) (T := TX0) (N := 2) hx hb hz hinX0 hown hK hP 0 rfl rfl 1 (by decide) (hz _ zw_73) (fun _ h9 => h9) rfl dX0_markErase_26 ?_
    refine lv_iload hx hb dX0_markErase_29 (lv_at hl 1 rfl) ?_
    refine z_lald (v := eb (i * 2 + j / 64)) hx hb hK hP 2 1 rfl rfl (k := (i * 2 + j / 64)) (by omega) (by omega) rfl dX0_markErase_31 ?_
    refine lv_lload hx hb dX0_markErase_32 (lv_at hl 0 rfl) ?_
    refine lv_lor hx hb dX0_markErase_34 ?_
    refine lv_goto (tgt := 52) hx hb dX0_markErase_35 (by decide) ?_
    refine z_last hx hb hK hP hD hS 2 1 rfl rfl (k := (i * 2 + j / 64)) (by omega) (by omega) dX0_markErase_52 (fun H locs hP hD hS => ?_)
    have hP : va_P (dC, dI) vwCl (([(hc, .inr (0, [.ref qr, .ref qe])), (qr, .inl (cI, 121, .inl rc)), (qe, .inl (cJ, 240, .inr (.inl (vp_updL eb (i * 2 + j / 64) ((eb (i * 2 + j / 64)) ||| bt)))))] : va_W) ++ ([] : va_W)) H := hP
    have hD : va_D A (([(hc, .inr (0, [.ref qr, .ref qe])), (qr, .inl (cI, 121, .inl rc)), (qe, .inl (cJ, 240, .inr (.inl (vp_updL eb (i * 2 + j / 64) ((eb (i * 2 + j / 64)) ||| bt)))))] : va_W) ++ ([] : va_W)) := hD
    exact hret H locs ([(hc, .inr (0, [.ref qr, .ref qe])), (qr, .inl (cI, 121, .inl rc)), (qe, .inl (cJ, 240, .inr (.inl (vp_updL eb (i * 2 + j / 64) ((eb (i * 2 + j / 64)) ||| bt)))))] : va_W) _ ls hP hD hS dX0_markErase_53 ⟨_, fun i' j' hj' => by rw [zb_set hbt (by omega) hj', show decide (x ≠ 0) = true from decide_eq_true c1], rfl⟩

abbrev rm_X0_isEraseMarked : Room := { frames := 1, cells := 0, slots := 0, locals := 21 }
set_option maxHeartbeats 4000000 in
set_option maxRecDepth 100000 in
theorem c_Cmp_marked (l : Launch) (dC : Nat → ClassId) (dI : Nat → Nat → Nat) (cI cJ cR : ClassId) (hc qr qe : Nat) (rc : Nat → Int32) (eb : Nat → Int64) (i j : Nat) (hi : i < 120) (hj : j < 120) : zI l (dC, dI) vwCl (zT cI cJ cR) zNW yX0_isEraseMarked wsX0_isEraseMarked rm_X0_isEraseMarked [.ref hc, .int (nI i), .int (nI j)] ([(hc, .inr (0, [.ref qr, .ref qe])), (qr, .inl (cI, 121, .inl rc)), (qe, .inl (cJ, 240, .inr (.inl eb)))] : va_W) (fun r w => (r = if zb eb i j = true then 1 else 0) ∧ w = ([(hc, .inr (0, [.ref qr, .ref qe])), (qr, .inl (cI, 121, .inl rc)), (qe, .inl (cJ, 240, .inr (.inl eb)))] : va_W)) := by
  refine z_ofI (cc := cX0_isEraseMarked) (maxL := 3) (rt := .boolean) (Or.inr ⟨rfl, (fun v w h => by rw [h.1]; split <;> decide)⟩) (by decide) rfl (Nat.le_of_ble_eq_true rfl) ?_
  intro p e s m args below meth c A Q ls hI hret
  obtain ⟨hx, hb, hml, hown, hts, hnm, hA, hK, hN, hP, hD, hS, hl⟩ := hI
  have hown : s.vm.findClass RX0 = some m.cls := hown
  have hl : lv_has ls 3 [(0, .ref hc), (1, .int (nI i)), (2, .int (nI j))] := hl
  have hP : va_P (dC, dI) vwCl (([(hc, .inr (0, [.ref qr, .ref qe])), (qr, .inl (cI, 121, .inl rc)), (qe, .inl (cJ, 240, .inr (.inl eb)))] : va_W) ++ ([] : va_W)) s.heap := hP
  have hD : va_D A (([(hc, .inr (0, [.ref qr, .ref qe])), (qr, .inl (cI, 121, .inl rc)), (qe, .inl (cJ, 240, .inr (.inl eb)))] : va_W) ++ ([] : va_W)) := hD
  have hz : ∀ w ∈ zW, w.before args s = true := fun w h => hts w (List.mem_cons_of_mem _ h)
  refine lv_aload_n hx hb dX0_isEraseMarked_0 rfl (lv_at hl 0 rfl) ?_
  refine va_get (D := (dC, dI)) (ci := 0) (v := .ref qe) (C := RX0) (T := TX0) (N := 2) hx hb hz hinX0 hown hK hP 0 rfl rfl 1 (by decide) (hz _ zw_73) (fun _ h9 => h9) rfl dX0_isEraseMarked_1 ?_
  refine lv_iload_n hx hb dX0_isEraseMarked_4 rfl (lv_at hl 1 rfl) ?_
  refine lv_iload_n hx hb dX0_isEraseMarked_5 rfl (lv_at hl 2 rfl) ?_
  refine z_ciQ (wr := ([(hc, .inr (0, [.ref qr, .ref qe])), (qr, .inl (cI, 121, .inl rc)), (qe, .inl (cJ, 240, .inr (.inl eb)))] : va_W)) (cx := ([] : va_W)) hP hD hS hA [] [0, 1, 2] rfl rfl (by decide) (by decide) (va_runS (As := [.int (nI i), .int (nI j)]) (rest := [.ref qe]) ⟨hx, hb, hml, hown, hz⟩ (c_Cmp_wordOf l dC dI cI cJ cR i j (by omega) (by omega) s.heap.size) (cwS 2 hz (zgS zw_306 zw_307 zw_24 zw_308) rfl rfl rfl (by decide +kernel) ⟨Nat.le_of_ble_eq_true rfl, Nat.le_of_ble_eq_true rfl⟩) ⟨zP_blind, z_preQ hK hN hP hD [] rfl (by decide)⟩ rfl rfl hl.1 rfl (lv_room (Nat.le_of_ble_eq_true rfl)) dX0_isEraseMarked_6 ⟨Nat.le_of_ble_eq_true rfl, Nat.le_of_ble_eq_true rfl⟩) (fun r w1 H locs hw hP hD hS => ?_)
  obtain ⟨rfl, hw⟩ := hw
  subst hw
  have hP : va_P (dC, dI) vwCl (([(hc, .inr (0, [.ref qr, .ref qe])), (qr, .inl (cI, 121, .inl rc)), (qe, .inl (cJ, 240, .inr (.inl eb)))] : va_W) ++ ([] : va_W)) H := hP
  have hD : va_D A (([(hc, .inr (0, [.ref qr, .ref qe])), (qr, .inl (cI, 121, .inl rc)), (qe, .inl (cJ, 240, .inr (.inl eb)))] : va_W) ++ ([] : va_W)) := hD
  refine z_lald (v := eb (i * 2 + j / 64)) hx hb hK hP 2 1 rfl rfl (k := (i * 2 + j / 64)) (by omega) (by omega) rfl dX0_isEraseMarked_9 ?_
  refine lv_lconst (v := 1) hx hb dX0_isEraseMarked_10 (by decide) ?_
  refine lv_iload_n hx hb dX0_isEraseMarked_11 rfl (lv_at hl 2 rfl) ?_
  refine lv_bipush (v := nI 63) hx hb dX0_isEraseMarked_12 (by decide) ?_
  refine lv_iand hx hb dX0_isEraseMarked_14 ?_
  rw [show nI j &&& nI 63 = nI (j % 64) from pk_andN (by omega) 6 (by decide)]
  refine lv_lshl hx hb dX0_isEraseMarked_15 rfl ?_
  refine lv_topl (fun bt ebt => ?_)
  have hbt : bt.toBitVec = BitVec.twoPow 64 (j % 64) := by rw [ebt]; exact zb_one _ (Nat.mod_lt _ (by decide))
  refine lv_land hx hb dX0_isEraseMarked_16 ?_
  refine lv_lconst (v := 0) hx hb dX0_isEraseMarked_17 (by decide) ?_
  refine W.lcmp hx hb dX0_isEraseMarked_18 ?_
  have hz := zb_test (w := eb (i * 2 + j / 64)) (Nat.mod_lt j (by decide : 0 < 64)) hbt
  refine lv_if_eq (tgt := 26) hx hb dX0_isEraseMarked_19 (by decide) (fun c1 => ?_) (fun c1 => ?_)
  · refine lv_iconst (v := nI 0) hx hb dX0_isEraseMarked_26 (by decide) ?_
    exact hret H locs _ ([(hc, .inr (0, [.ref qr, .ref qe])), (qr, .inl (cI, 121, .inl rc)), (qe, .inl (cJ, 240, .inr (.inl eb)))] : va_W) _ ls hP hD hS dX0_isEraseMarked_27 ⟨by rw [if_neg (fun z => by have z2 := hz.mp (z_cmp0.mp c1); unfold zb at z; rw [z2] at z; cases z)]; decide, rfl⟩
  · refine lv_iconst (v := nI 1) hx hb dX0_isEraseMarked_22 (by decide) ?_
    refine lv_goto (tgt := 27) hx hb dX0_isEraseMarked_23 (by decide) ?_
    exact hret H locs _ ([(hc, .inr (0, [.ref qr, .ref qe])), (qr, .inl (cI, 121, .inl rc)), (qe, .inl (cJ, 240, .inr (.inl eb)))] : va_W) _ ls hP hD hS dX0_isEraseMarked_27 ⟨by rw [if_pos (by cases z : zb eb i j with | true => rfl | false => exact absurd (z_cmp0.mpr (hz.mpr z)) c1)]; decide, rfl⟩

abbrev rm_X0_moveCostsBackTo : Room := { frames := 2, cells := 0, slots := 0, locals := 47 }
set_option maxHeartbeats 4000000 in
set_option maxRecDepth 100000 in
theorem c_Cmp_move (l : Launch) (dC : Nat → ClassId) (dI : Nat → Nat → Nat) (cI cJ cR : ClassId) (hc qr qe : Nat) (rc : Nat → Int32) (eb : Nat → Int64) (Rw : va_W) (ja ka jb kb ra pa rb pb na nb : Nat) (f g : Nat → Int32) (i : Nat) (hi : i < na) (hna : na ≤ 120) (hnb : nb ≤ 120) (hao : Rw[ja]? = some (rO ra pa na)) (haf : Rw[ka]? = some (rF cI pa f)) (hbo : Rw[jb]? = some (rO rb pb nb)) (hbf : Rw[kb]? = some (rF cI pb g)) (hrc : ∀ j, j ≤ nb → rc j = nI (dc f g na nb (i + 1) j)) : zV l (dC, dI) vwCl (zT cI cJ cR) zNW yX0_moveCostsBackTo wsX0_moveCostsBackTo rm_X0_moveCostsBackTo [.ref hc, .int (nI i), .int (f i), .ref rb] (([(hc, .inr (0, [.ref qr, .ref qe])), (qr, .inl (cI, 121, .inl rc)), (qe, .inl (cJ, 240, .inr (.inl eb)))] : va_W) ++ Rw) (fun w => ∃ (rc' : Nat → Int32) (eb' : Nat → Int64), (∀ j, j ≤ nb → rc' j = nI (dc f g na nb i j)) ∧ (∀ i' j', j' < 128 → zb eb' i' j' = if i' = i ∧ j' < nb then decide (dc f g na nb (i + 1) j' ≤ dc f g na nb i (j' + 1)) else zb eb i' j') ∧ w = (([(hc, .inr (0, [.ref qr, .ref qe])), (qr, .inl (cI, 121, .inl rc')), (qe, .inl (cJ, 240, .inr (.inl eb')))] : va_W) ++ Rw)) := by
  refine z_ofV (cc := cX0_moveCostsBackTo) (maxL := 8) (by decide) rfl (Nat.le_of_ble_eq_true rfl) ?_
  intro p e s m args below meth c A Q ls hI hret
  obtain ⟨hx, hb, hml, hown, hts, hnm, hA, hK, hN, hP, hD, hS, hl⟩ := hI
  have hown : s.vm.findClass RX0 = some m.cls := hown
  have hl : lv_has ls 8 [(0, .ref hc), (1, .int (nI i)), (2, .int (f i)), (3, .ref rb)] := hl
  have hP : va_P (dC, dI) vwCl (([(hc, .inr (0, [.ref qr, .ref qe])), (qr, .inl (cI, 121, .inl rc)), (qe, .inl (cJ, 240, .inr (.inl eb)))] : va_W) ++ Rw) s.heap := hP
  have hD : va_D A (([(hc, .inr (0, [.ref qr, .ref qe])), (qr, .inl (cI, 121, .inl rc)), (qe, .inl (cJ, 240, .inr (.inl eb)))] : va_W) ++ Rw) := hD
  have hz : ∀ w ∈ zW, w.before args s = true := fun w h => hts w (List.mem_cons_of_mem _ h)
  have hdl := fun (a b : Nat) => dc_le (F := f) (G := g) (na := na) (nb := nb) (i := a) (j := b)
  refine lv_aload_n hx hb dX0_moveCostsBackTo_0 rfl (lv_at hl 0 rfl) ?_
  refine va_get (D := (dC, dI)) (ci := 0) (v := .ref qr) (C := RX0) (T := TX0) (N := 2) hx hb hz hinX0 hown hK hP 0 rfl rfl 0 (by decide) (hz _ zw_72) (fun _ h9 => h9) rfl dX0_moveCostsBackTo_1 ?_
  refine lv_aload_n hx hb dX0_moveCostsBackTo_4 rfl (lv_at hl 3 rfl) ?_
  refine va_getN (D := (dC, dI)) (ci := 2) (v := .int (nI nb)) (C := RX2) (T := TX2) (N := 2) hx hb hz hinX2 hown hK hP _ (z_right hbo) rfl 1 (by decide) (hN.use _ zn_58) (fun _ h9 => h9) rfl dX0_moveCostsBackTo_5 ?_
  refine z_iald (v := nI (dc f g na nb (i + 1) nb)) hx hb hK hP 1 0 rfl rfl (k := nb) (by omega) (by omega) (hrc nb (Nat.le_refl nb)) dX0_moveCostsBackTo_8 ?_
  have hd1 : dc f g na nb (i + 1) nb = na - (i + 1) := dc_nb
  have hd2 : dc f g na nb i nb = na - i := dc_nb
  refine lv_istore (lv' := [(4, .int (nI (dc f g na nb (i + 1) nb))), (0, .ref hc), (1, .int (nI i)), (2, .int (f i)), (3, .ref rb)]) hx hb dX0_moveCostsBackTo_9 hl (by decide) rfl (fun ls hl => ?_)
  refine lv_aload_n hx hb dX0_moveCostsBackTo_11 rfl (lv_at hl 1 rfl) ?_
  refine va_get (D := (dC, dI)) (ci := 0) (v := .ref qr) (C := RX0) (T := TX0) (N := 2) hx hb hz hinX0 hown hK hP 0 rfl rfl 0 (by decide) (hz _ zw_72) (fun _ h9 => h9) rfl dX0_moveCostsBackTo_12 ?_
  refine lv_aload_n hx hb dX0_moveCostsBackTo_15 rfl (lv_at hl 4 rfl) ?_
  refine va_getN (D := (dC, dI)) (ci := 2) (v := .int (nI nb)) (C := RX2) (T := TX2) (N := 2) hx hb hz hinX2 hown hK hP _ (z_right hbo) rfl 1 (by decide) (hN.use _ zn_58) (fun _ h9 => h9) rfl dX0_moveCostsBackTo_16 ?_
  refine lv_iload hx hb dX0_moveCostsBackTo_19 (lv_at hl 0 rfl) ?_
  refine lv_iconst (v := nI 1) hx hb dX0_moveCostsBackTo_21 (by decide) ?_
  refine t_iadd hx hb dX0_moveCostsBackTo_22 (show nI (dc f g na nb (i + 1) nb) + nI 1 = nI (dc f g na nb (i + 1) nb + 1) from (nI_add _ _)) ?_
  refine z_iast hx hb hK hP hD hS 1 0 rfl rfl (k := nb) (by omega) (by omega) dX0_moveCostsBackTo_23 (fun H locs hP hD hS => ?_)
  have hP : va_P (dC, dI) vwCl (([(hc, .inr (0, [.ref qr, .ref qe])), (qr, .inl (cI, 121, .inl (upd rc nb (nI (dc f g na nb (i + 1) nb + 1))))), (qe, .inl (cJ, 240, .inr (.inl eb)))] : va_W) ++ Rw) H := hP
  have hD : va_D A (([(hc, .inr (0, [.ref qr, .ref qe])), (qr, .inl (cI, 121, .inl (upd rc nb (nI (dc f g na nb (i + 1) nb + 1))))), (qe, .inl (cJ, 240, .inr (.inl eb)))] : va_W) ++ Rw) := hD
  refine lv_aload_n hx hb dX0_moveCostsBackTo_24 rfl (lv_at hl 4 rfl) ?_
  refine va_getN (D := (dC, dI)) (ci := 2) (v := .int (nI nb)) (C := RX2) (T := TX2) (N := 2) hx hb hz hinX2 hown hK hP _ (z_right hbo) rfl 1 (by decide) (hN.use _ zn_58) (fun _ h9 => h9) rfl dX0_moveCostsBackTo_25 ?_
  refine lv_iconst (v := nI 1) hx hb dX0_moveCostsBackTo_28 (by decide) ?_
  refine lv_isub hx hb dX0_moveCostsBackTo_29 ?_
  refine lv_istore (lv' := [(5, .int ((nI nb) - (nI 1))), (4, .int (nI (dc f g na nb (i + 1) nb))), (0, .ref hc), (1, .int (nI i)), (2, .int (f i)), (3, .ref rb)]) hx hb dX0_moveCostsBackTo_30 hl (by decide) rfl (fun ls hl => ?_)
  have L1 : ∀ (d : Nat) (rc1 : Nat → Int32) (eb1 : Nat → Int64) (H : Heap) (locs : List Loc) (ls : Array Slot), d ≤ nb → (∀ j', d ≤ j' → j' ≤ nb → rc1 j' = nI (dc f g na nb i j')) → (∀ j', j' < d → rc1 j' = nI (dc f g na nb (i + 1) j')) → (∀ i' j', j' < 128 → zb eb1 i' j' = if i' = i ∧ d ≤ j' ∧ j' < nb then decide (dc f g na nb (i + 1) j' ≤ dc f g na nb i (j' + 1)) else zb eb i' j') → va_P (dC, dI) vwCl (([(hc, .inr (0, [.ref qr, .ref qe])), (qr, .inl (cI, 121, .inl rc1)), (qe, .inl (cJ, 240, .inr (.inl eb1)))] : va_W) ++ Rw) H → va_D A (([(hc, .inr (0, [.ref qr, .ref qe])), (qr, .inl (cI, 121, .inl rc1)), (qe, .inl (cJ, 240, .inr (.inl eb1)))] : va_W) ++ Rw) → va_S A s.heap H locs → lv_has ls 8 [(5, .int (nI d - nI 1)), (4, .int (nI (dc f g na nb (i + 1) d))), (0, .ref hc), (1, .int (nI i)), (2, .int (f i)), (3, .ref rb)] → W p l e rm_X0_moveCostsBackTo s m args below meth c H locs 0 0 Q (F0 m 32 ls []) := by
    intro d
    induction d with
    | zero =>
      intro rc1 eb1 H locs ls hdn hv1 hv2 hv3 hP hD hS hl
      refine lv_iload hx hb dX0_moveCostsBackTo_32 (lv_at hl 0 rfl) ?_
      refine lv_if_lt (tgt := 118) hx hb dX0_moveCostsBackTo_34 (by decide) (fun c1 => ?_) (fun c1 => ?_)
      · exact hret H locs (([(hc, .inr (0, [.ref qr, .ref qe])), (qr, .inl (cI, 121, .inl rc1)), (qe, .inl (cJ, 240, .inr (.inl eb1)))] : va_W) ++ Rw) _ ls hP hD hS dX0_moveCostsBackTo_118 ⟨rc1, eb1, fun j' hj' => hv1 j' (by omega) hj', fun i' j' hj' => by rw [hv3 i' j' hj']; simp only [Nat.zero_le, true_and], rfl⟩
      · exact absurd (show nI 0 - nI 1 < 0 by decide) c1
    | succ d ih =>
      intro rc1 eb1 H locs ls hdn hv1 hv2 hv3 hP hD hS hl
      rw [show nI (d + 1) - nI 1 = nI d from nI_pred d] at hl
      refine lv_iload hx hb dX0_moveCostsBackTo_32 (lv_at hl 0 rfl) ?_
      refine lv_if_lt (tgt := 118) hx hb dX0_moveCostsBackTo_34 (by decide) (fun c1 => ?_) (fun c1 => ?_)
      · exact absurd c1 (nI_pos (by omega))
      · refine lv_aload_n hx hb dX0_moveCostsBackTo_37 rfl (lv_at hl 2 rfl) ?_
        refine va_get (D := (dC, dI)) (ci := 0) (v := .ref qr) (C := RX0) (T := TX0) (N := 2) hx hb hz hinX0 hown hK hP 0 rfl rfl 0 (by decide) (hz _ zw_72) (fun _ h9 => h9) rfl dX0_moveCostsBackTo_38 ?_
        refine lv_iload hx hb dX0_moveCostsBackTo_41 (lv_at hl 0 rfl) ?_
        refine z_iald (v := nI (dc f g na nb (i + 1) d)) hx hb hK hP 1 0 rfl rfl (k := d) (by omega) (by omega) (hv2 d (by omega)) dX0_moveCostsBackTo_43 ?_
        refine lv_istore (lv' := [(6, .int (nI (dc f g na nb (i + 1) d))), (5, .int (nI d)), (4, .int (nI (dc f g na nb (i + 1) (d + 1)))), (0, .ref hc), (1, .int (nI i)), (2, .int (f i)), (3, .ref rb)]) hx hb dX0_moveCostsBackTo_44 hl (by decide) rfl (fun ls hl => ?_)
        refine lv_aload_n hx hb dX0_moveCostsBackTo_46 rfl (lv_at hl 3 rfl) ?_
        refine va_get (D := (dC, dI)) (ci := 0) (v := .ref qr) (C := RX0) (T := TX0) (N := 2) hx hb hz hinX0 hown hK hP 0 rfl rfl 0 (by decide) (hz _ zw_72) (fun _ h9 => h9) rfl dX0_moveCostsBackTo_47 ?_
        refine lv_iload hx hb dX0_moveCostsBackTo_50 (lv_at hl 1 rfl) ?_
        refine lv_iconst (v := nI 1) hx hb dX0_moveCostsBackTo_52 (by decide) ?_
        refine t_iadd hx hb dX0_moveCostsBackTo_53 (show nI d + nI 1 = nI (d + 1) from (nI_add _ _)) ?_
        refine z_iald (v := nI (dc f g na nb i (d + 1))) hx hb hK hP 1 0 rfl rfl (k := (d + 1)) (by omega) (by omega) (hv1 (d + 1) (by omega) (by omega)) dX0_moveCostsBackTo_54 ?_
        have hl1 := hdl (i + 1) d
        have hl2 := hdl i (d + 1)
        have hl3 := hdl (i + 1) (d + 1)
        refine lv_istore (lv' := [(7, .int (nI (dc f g na nb i (d + 1)))), (6, .int (nI (dc f g na nb (i + 1) d))), (5, .int (nI d)), (4, .int (nI (dc f g na nb (i + 1) (d + 1)))), (0, .ref hc), (1, .int (nI i)), (2, .int (f i)), (3, .ref rb)]) hx hb dX0_moveCostsBackTo_55 hl (by decide) rfl (fun ls hl => ?_)
        refine lv_aload_n hx hb dX0_moveCostsBackTo_57 rfl (lv_at hl 4 rfl) ?_
        refine lv_iload_n hx hb dX0_moveCostsBackTo_58 rfl (lv_at hl 5 rfl) ?_
        refine lv_iload hx hb dX0_moveCostsBackTo_59 (lv_at hl 2 rfl) ?_
        refine lv_iload hx hb dX0_moveCostsBackTo_61 (lv_at hl 1 rfl) ?_
        refine lv_iload hx hb dX0_moveCostsBackTo_63 (lv_at hl 0 rfl) ?_
        refine lv_icmp_gt (tgt := 72) hx hb dX0_moveCostsBackTo_65 (by decide) (fun c2 => ?_) (fun c2 => ?_)
        · have c2 : (dc f g na nb i (d + 1)) < (dc f g na nb (i + 1) d) := (nI_ltI (by omega) (by omega)).mp c2
          refine lv_iconst (v := nI 0) hx hb dX0_moveCostsBackTo_72 (by decide) ?_
          refine z_cvQ (wr := ([] : va_W)) (cx := ([(hc, .inr (0, [.ref qr, .ref qe])), (qr, .inl (cI, 121, .inl rc1)), (qe, .inl (cJ, 240, .inr (.inl eb1)))] : va_W)) hP hD hS hA [0, 1, 2] [] rfl rfl (by decide) (by decide) (va_runV (As := [.int (nI i), .int (nI d), .int (nI 0)]) (rest := []) ⟨hx, hb, hml, hown, hz⟩ (c_Cmp_mark l dC dI cI cJ cR hc qr qe rc1 eb1 i d (nI 0) (by omega) (by omega) H.size) (cwV 3 hz (zgV zw_302 zw_304 zw_5 zw_24 zw_305) rfl rfl rfl (by decide +kernel) ⟨Nat.le_of_ble_eq_true rfl, Nat.le_of_ble_eq_true rfl⟩) ⟨zP_blind, z_recv hK hP (ci := 0) rfl rfl (q0 := 0) rfl, z_preQ hK hN hP hD [0, 1, 2] rfl (by decide)⟩ rfl rfl hl.1 rfl (lv_room (Nat.le_of_ble_eq_true rfl)) dX0_moveCostsBackTo_73 ⟨Nat.le_of_ble_eq_true rfl, Nat.le_of_ble_eq_true rfl⟩) (fun w1 H locs hw hP hD hS => ?_)
          obtain ⟨eb2, he2, hw⟩ := hw
          subst hw
          have hP : va_P (dC, dI) vwCl (([(hc, .inr (0, [.ref qr, .ref qe])), (qr, .inl (cI, 121, .inl rc1)), (qe, .inl (cJ, 240, .inr (.inl eb2)))] : va_W) ++ Rw) H := hP
          have hD : va_D A (([(hc, .inr (0, [.ref qr, .ref qe])), (qr, .inl (cI, 121, .inl rc1)), (qe, .inl (cJ, 240, .inr (.inl eb2)))] : va_W) ++ Rw) := hD
          have hx9 : decide ((nI 0) ≠ (0 : Int32)) = (fun j' => decide (dc f g na nb (i + 1) j' ≤ dc f g na nb i (j' + 1))) d := by show decide ((nI 0) ≠ (0 : Int32)) = decide (dc f g na nb (i + 1) d ≤ dc f g na nb i (d + 1)); rw [decide_eq_false (show ¬ (dc f g na nb (i + 1) d ≤ dc f g na nb i (d + 1)) by omega)]; decide
          have he3 : ∀ i' j', j' < 128 → zb eb2 i' j' = if i' = i ∧ d ≤ j' ∧ j' < nb then decide (dc f g na nb (i + 1) j' ≤ dc f g na nb i (j' + 1)) else zb eb i' j' := fun i' j' hj' => zb_step (p := fun j' => decide (dc f g na nb (i + 1) j' ≤ dc f g na nb i (j' + 1))) (he2 i' j' hj') (hv3 i' j' hj') (by omega) hx9
          refine lv_aload_n hx hb dX0_moveCostsBackTo_76 rfl (lv_at hl 4 rfl) ?_
          refine va_get (D := (dC, dI)) (ci := 0) (v := .ref qr) (C := RX0) (T := TX0) (N := 2) hx hb hz hinX0 hown hK hP 0 rfl rfl 0 (by decide) (hz _ zw_72) (fun _ h9 => h9) rfl dX0_moveCostsBackTo_77 ?_
          refine lv_iload hx hb dX0_moveCostsBackTo_80 (lv_at hl 2 rfl) ?_
          refine lv_iload_n hx hb dX0_moveCostsBackTo_82 rfl (lv_at hl 6 rfl) ?_
          refine lv_aload_n hx hb dX0_moveCostsBackTo_83 rfl (lv_at hl 7 rfl) ?_
          refine va_getN (D := (dC, dI)) (ci := 2) (v := .ref pb) (C := RX2) (T := TX2) (N := 2) hx hb hz hinX2 hown hK hP _ (z_right hbo) rfl 0 (by decide) (hN.use _ zn_52) (fun _ h9 => h9) rfl dX0_moveCostsBackTo_84 ?_
          refine lv_iload hx hb dX0_moveCostsBackTo_87 (lv_at hl 2 rfl) ?_
          refine z_iald (v := g d) hx hb hK hP _ 0 (z_right hbf) rfl (k := d) (by omega) (by omega) rfl dX0_moveCostsBackTo_89 ?_
          refine lv_icmp_ne (tgt := 98) hx hb dX0_moveCostsBackTo_90 (by decide) (fun c3 => ?_) (fun c3 => ?_)
          · refine lv_iconst (v := nI 1) hx hb dX0_moveCostsBackTo_98 (by decide) ?_
            refine lv_iload hx hb dX0_moveCostsBackTo_99 (lv_at hl 1 rfl) ?_
            refine lv_iload hx hb dX0_moveCostsBackTo_101 (lv_at hl 0 rfl) ?_
            refine va_mmin hx hb (hml.trans hl.1.symm) hown (hz _ zw_310) (hz _ zw_311) (hz _ zw_32) (hz _ zw_312) (Nat.le_of_ble_eq_true rfl) (Nat.le_of_ble_eq_true rfl) (Nat.zero_le _) (Nat.zero_le _) dX0_moveCostsBackTo_103 ?_
            rw [z_min (a := dc f g na nb (i + 1) d) (b := dc f g na nb i (d + 1)) (by omega) (by omega)]
            refine t_iadd hx hb dX0_moveCostsBackTo_106 (show nI 1 + nI (min (dc f g na nb (i + 1) d) (dc f g na nb i (d + 1))) = nI (1 + (min (dc f g na nb (i + 1) d) (dc f g na nb i (d + 1)))) from (nI_add _ _)) ?_
            refine z_iast hx hb hK hP hD hS 1 0 rfl rfl (k := d) (by omega) (by omega) dX0_moveCostsBackTo_107 (fun H locs hP hD hS => ?_)
            have hP : va_P (dC, dI) vwCl (([(hc, .inr (0, [.ref qr, .ref qe])), (qr, .inl (cI, 121, .inl (upd rc1 d (nI (1 + (min (dc f g na nb (i + 1) d) (dc f g na nb i (d + 1)))))))), (qe, .inl (cJ, 240, .inr (.inl eb2)))] : va_W) ++ Rw) H := hP
            have hD : va_D A (([(hc, .inr (0, [.ref qr, .ref qe])), (qr, .inl (cI, 121, .inl (upd rc1 d (nI (1 + (min (dc f g na nb (i + 1) d) (dc f g na nb i (d + 1)))))))), (qe, .inl (cJ, 240, .inr (.inl eb2)))] : va_W) ++ Rw) := hD
            refine lv_iload hx hb dX0_moveCostsBackTo_108 (lv_at hl 1 rfl) ?_
            refine lv_istore (lv' := [(4, .int (nI (dc f g na nb (i + 1) d))), (7, .int (nI (dc f g na nb i (d + 1)))), (6, .int (nI (dc f g na nb (i + 1) d))), (5, .int (nI d)), (0, .ref hc), (1, .int (nI i)), (2, .int (f i)), (3, .ref rb)]) hx hb dX0_moveCostsBackTo_110 hl (by decide) rfl (fun ls hl => ?_)
            refine lv_iinc (v := nI d - nI 1) (lv' := [(5, .int (nI d - nI 1)), (4, .int (nI (dc f g na nb (i + 1) d))), (7, .int (nI (dc f g na nb i (d + 1)))), (6, .int (nI (dc f g na nb (i + 1) d))), (0, .ref hc), (1, .int (nI i)), (2, .int (f i)), (3, .ref rb)]) hx hb dX0_moveCostsBackTo_112 hl (k := 3) rfl (z_dec _) (by decide) rfl (fun ls hl => ?_)
            refine lv_goto (tgt := 32) hx hb dX0_moveCostsBackTo_115 (by decide) ?_
            exact ih _ eb2 _ _ ls (by omega) (up_hi (q := fun j' => nI (dc f g na nb i j')) hv1 (by show _ = nI (dc f g na nb i d); rw [dc_s hi (show d < nb by omega), if_neg c3])) (up_lo (q := fun j' => nI (dc f g na nb (i + 1) j')) hv2) he3 hP hD hS (lv_sub hl [0, 1, 4, 5, 6, 7] rfl)
          · refine lv_iload hx hb dX0_moveCostsBackTo_93 (lv_at hl 3 rfl) ?_
            refine lv_goto (tgt := 107) hx hb dX0_moveCostsBackTo_95 (by decide) ?_
            refine z_iast hx hb hK hP hD hS 1 0 rfl rfl (k := d) (by omega) (by omega) dX0_moveCostsBackTo_107 (fun H locs hP hD hS => ?_)
            have hP : va_P (dC, dI) vwCl (([(hc, .inr (0, [.ref qr, .ref qe])), (qr, .inl (cI, 121, .inl (upd rc1 d (nI (dc f g na nb (i + 1) (d + 1)))))), (qe, .inl (cJ, 240, .inr (.inl eb2)))] : va_W) ++ Rw) H := hP
            have hD : va_D A (([(hc, .inr (0, [.ref qr, .ref qe])), (qr, .inl (cI, 121, .inl (upd rc1 d (nI (dc f g na nb (i + 1) (d + 1)))))), (qe, .inl (cJ, 240, .inr (.inl eb2)))] : va_W) ++ Rw) := hD
            refine lv_iload hx hb dX0_moveCostsBackTo_108 (lv_at hl 1 rfl) ?_
            refine lv_istore (lv' := [(4, .int (nI (dc f g na nb (i + 1) d))), (7, .int (nI (dc f g na nb i (d + 1)))), (6, .int (nI (dc f g na nb (i + 1) d))), (5, .int (nI d)), (0, .ref hc), (1, .int (nI i)), (2, .int (f i)), (3, .ref rb)]) hx hb dX0_moveCostsBackTo_110 hl (by decide) rfl (fun ls hl => ?_)
            refine lv_iinc (v := nI d - nI 1) (lv' := [(5, .int (nI d - nI 1)), (4, .int (nI (dc f g na nb (i + 1) d))), (7, .int (nI (dc f g na nb i (d + 1)))), (6, .int (nI (dc f g na nb (i + 1) d))), (0, .ref hc), (1, .int (nI i)), (2, .int (f i)), (3, .ref rb)]) hx hb dX0_moveCostsBackTo_112 hl (k := 3) rfl (z_dec _) (by decide) rfl (fun ls hl => ?_)
            refine lv_goto (tgt := 32) hx hb dX0_moveCostsBackTo_115 (by decide) ?_
            exact ih _ eb2 _ _ ls (by omega) (up_hi (q := fun j' => nI (dc f g na nb i j')) hv1 (by show _ = nI (dc f g na nb i d); rw [dc_s hi (show d < nb by omega), if_pos c3])) (up_lo (q := fun j' => nI (dc f g na nb (i + 1) j')) hv2) he3 hP hD hS (lv_sub hl [0, 1, 4, 5, 6, 7] rfl)
        · have c2 : ¬ ((dc f g na nb i (d + 1)) < (dc f g na nb (i + 1) d)) := fun h => c2 ((nI_ltI (by omega) (by omega)).mpr h)
          refine lv_iconst (v := nI 1) hx hb dX0_moveCostsBackTo_68 (by decide) ?_
          refine lv_goto (tgt := 73) hx hb dX0_moveCostsBackTo_69 (by decide) ?_
          refine z_cvQ (wr := ([] : va_W)) (cx := ([(hc, .inr (0, [.ref qr, .ref qe])), (qr, .inl (cI, 121, .inl rc1)), (qe, .inl (cJ, 240, .inr (.inl eb1)))] : va_W)) hP hD hS hA [0, 1, 2] [] rfl rfl (by decide) (by decide) (va_runV (As := [.int (nI i), .int (nI d), .int (nI 1)]) (rest := []) ⟨hx, hb, hml, hown, hz⟩ (c_Cmp_mark l dC dI cI cJ cR hc qr qe rc1 eb1 i d (nI 1) (by omega) (by omega) H.size) (cwV 3 hz (zgV zw_302 zw_304 zw_5 zw_24 zw_305) rfl rfl rfl (by decide +kernel) ⟨Nat.le_of_ble_eq_true rfl, Nat.le_of_ble_eq_true rfl⟩) ⟨zP_blind, z_recv hK hP (ci := 0) rfl rfl (q0 := 0) rfl, z_preQ hK hN hP hD [0, 1, 2] rfl (by decide)⟩ rfl rfl hl.1 rfl (lv_room (Nat.le_of_ble_eq_true rfl)) dX0_moveCostsBackTo_73 ⟨Nat.le_of_ble_eq_true rfl, Nat.le_of_ble_eq_true rfl⟩) (fun w1 H locs hw hP hD hS => ?_)
          obtain ⟨eb2, he2, hw⟩ := hw
          subst hw
          have hP : va_P (dC, dI) vwCl (([(hc, .inr (0, [.ref qr, .ref qe])), (qr, .inl (cI, 121, .inl rc1)), (qe, .inl (cJ, 240, .inr (.inl eb2)))] : va_W) ++ Rw) H := hP
          have hD : va_D A (([(hc, .inr (0, [.ref qr, .ref qe])), (qr, .inl (cI, 121, .inl rc1)), (qe, .inl (cJ, 240, .inr (.inl eb2)))] : va_W) ++ Rw) := hD
          have hx9 : decide ((nI 1) ≠ (0 : Int32)) = (fun j' => decide (dc f g na nb (i + 1) j' ≤ dc f g na nb i (j' + 1))) d := by show decide ((nI 1) ≠ (0 : Int32)) = decide (dc f g na nb (i + 1) d ≤ dc f g na nb i (d + 1)); rw [decide_eq_true (show dc f g na nb (i + 1) d ≤ dc f g na nb i (d + 1) by omega)]; decide
          have he3 : ∀ i' j', j' < 128 → zb eb2 i' j' = if i' = i ∧ d ≤ j' ∧ j' < nb then decide (dc f g na nb (i + 1) j' ≤ dc f g na nb i (j' + 1)) else zb eb i' j' := fun i' j' hj' => zb_step (p := fun j' => decide (dc f g na nb (i + 1) j' ≤ dc f g na nb i (j' + 1))) (he2 i' j' hj') (hv3 i' j' hj') (by omega) hx9
          refine lv_aload_n hx hb dX0_moveCostsBackTo_76 rfl (lv_at hl 4 rfl) ?_
          refine va_get (D := (dC, dI)) (ci := 0) (v := .ref qr) (C := RX0) (T := TX0) (N := 2) hx hb hz hinX0 hown hK hP 0 rfl rfl 0 (by decide) (hz _ zw_72) (fun _ h9 => h9) rfl dX0_moveCostsBackTo_77 ?_
          refine lv_iload hx hb dX0_moveCostsBackTo_80 (lv_at hl 2 rfl) ?_
          refine lv_iload_n hx hb dX0_moveCostsBackTo_82 rfl (lv_at hl 6 rfl) ?_
          refine lv_aload_n hx hb dX0_moveCostsBackTo_83 rfl (lv_at hl 7 rfl) ?_
          refine va_getN (D := (dC, dI)) (ci := 2) (v := .ref pb) (C := RX2) (T := TX2) (N := 2) hx hb hz hinX2 hown hK hP _ (z_right hbo) rfl 0 (by decide) (hN.use _ zn_52) (fun _ h9 => h9) rfl dX0_moveCostsBackTo_84 ?_
          refine lv_iload hx hb dX0_moveCostsBackTo_87 (lv_at hl 2 rfl) ?_
          refine z_iald (v := g d) hx hb hK hP _ 0 (z_right hbf) rfl (k := d) (by omega) (by omega) rfl dX0_moveCostsBackTo_89 ?_
          refine lv_icmp_ne (tgt := 98) hx hb dX0_moveCostsBackTo_90 (by decide) (fun c3 => ?_) (fun c3 => ?_)
          · refine lv_iconst (v := nI 1) hx hb dX0_moveCostsBackTo_98 (by decide) ?_
            refine lv_iload hx hb dX0_moveCostsBackTo_99 (lv_at hl 1 rfl) ?_
            refine lv_iload hx hb dX0_moveCostsBackTo_101 (lv_at hl 0 rfl) ?_
            refine va_mmin hx hb (hml.trans hl.1.symm) hown (hz _ zw_310) (hz _ zw_311) (hz _ zw_32) (hz _ zw_312) (Nat.le_of_ble_eq_true rfl) (Nat.le_of_ble_eq_true rfl) (Nat.zero_le _) (Nat.zero_le _) dX0_moveCostsBackTo_103 ?_
            rw [z_min (a := dc f g na nb (i + 1) d) (b := dc f g na nb i (d + 1)) (by omega) (by omega)]
            refine t_iadd hx hb dX0_moveCostsBackTo_106 (show nI 1 + nI (min (dc f g na nb (i + 1) d) (dc f g na nb i (d + 1))) = nI (1 + (min (dc f g na nb (i + 1) d) (dc f g na nb i (d + 1)))) from (nI_add _ _)) ?_
            refine z_iast hx hb hK hP hD hS 1 0 rfl rfl (k := d) (by omega) (by omega) dX0_moveCostsBackTo_107 (fun H locs hP hD hS => ?_)
            have hP : va_P (dC, dI) vwCl (([(hc, .inr (0, [.ref qr, .ref qe])), (qr, .inl (cI, 121, .inl (upd rc1 d (nI (1 + (min (dc f g na nb (i + 1) d) (dc f g na nb i (d + 1)))))))), (qe, .inl (cJ, 240, .inr (.inl eb2)))] : va_W) ++ Rw) H := hP
            have hD : va_D A (([(hc, .inr (0, [.ref qr, .ref qe])), (qr, .inl (cI, 121, .inl (upd rc1 d (nI (1 + (min (dc f g na nb (i + 1) d) (dc f g na nb i (d + 1)))))))), (qe, .inl (cJ, 240, .inr (.inl eb2)))] : va_W) ++ Rw) := hD
            refine lv_iload hx hb dX0_moveCostsBackTo_108 (lv_at hl 1 rfl) ?_
            refine lv_istore (lv' := [(4, .int (nI (dc f g na nb (i + 1) d))), (7, .int (nI (dc f g na nb i (d + 1)))), (6, .int (nI (dc f g na nb (i + 1) d))), (5, .int (nI d)), (0, .ref hc), (1, .int (nI i)), (2, .int (f i)), (3, .ref rb)]) hx hb dX0_moveCostsBackTo_110 hl (by decide) rfl (fun ls hl => ?_)
            refine lv_iinc (v := nI d - nI 1) (lv' := [(5, .int (nI d - nI 1)), (4, .int (nI (dc f g na nb (i + 1) d))), (7, .int (nI (dc f g na nb i (d + 1)))), (6, .int (nI (dc f g na nb (i + 1) d))), (0, .ref hc), (1, .int (nI i)), (2, .int (f i)), (3, .ref rb)]) hx hb dX0_moveCostsBackTo_112 hl (k := 3) rfl (z_dec _) (by decide) rfl (fun ls hl => ?_)
            refine lv_goto (tgt := 32) hx hb dX0_moveCostsBackTo_115 (by decide) ?_
            exact ih _ eb2 _ _ ls (by omega) (up_hi (q := fun j' => nI (dc f g na nb i j')) hv1 (by show _ = nI (dc f g na nb i d); rw [dc_s hi (show d < nb by omega), if_neg c3])) (up_lo (q := fun j' => nI (dc f g na nb (i + 1) j')) hv2) he3 hP hD hS (lv_sub hl [0, 1, 4, 5, 6, 7] rfl)
          · refine lv_iload hx hb dX0_moveCostsBackTo_93 (lv_at hl 3 rfl) ?_
            refine lv_goto (tgt := 107) hx hb dX0_moveCostsBackTo_95 (by decide) ?_
            refine z_iast hx hb hK hP hD hS 1 0 rfl rfl (k := d) (by omega) (by omega) dX0_moveCostsBackTo_107 (fun H locs hP hD hS => ?_)
            have hP : va_P (dC, dI) vwCl (([(hc, .inr (0, [.ref qr, .ref qe])), (qr, .inl (cI, 121, .inl (upd rc1 d (nI (dc f g na nb (i + 1) (d + 1)))))), (qe, .inl (cJ, 240, .inr (.inl eb2)))] : va_W) ++ Rw) H := hP
            have hD : va_D A (([(hc, .inr (0, [.ref qr, .ref qe])), (qr, .inl (cI, 121, .inl (upd rc1 d (nI (dc f g na nb (i + 1) (d + 1)))))), (qe, .inl (cJ, 240, .inr (.inl eb2)))] : va_W) ++ Rw) := hD
            refine lv_iload hx hb dX0_moveCostsBackTo_108 (lv_at hl 1 rfl) ?_
            refine lv_istore (lv' := [(4, .int (nI (dc f g na nb (i + 1) d))), (7, .int (nI (dc f g na nb i (d + 1)))), (6, .int (nI (dc f g na nb (i + 1) d))), (5, .int (nI d)), (0, .ref hc), (1, .int (nI i)), (2, .int (f i)), (3, .ref rb)]) hx hb dX0_moveCostsBackTo_110 hl (by decide) rfl (fun ls hl => ?_)
            refine lv_iinc (v := nI d - nI 1) (lv' := [(5, .int (nI d - nI 1)), (4, .int (nI (dc f g na nb (i + 1) d))), (7, .int (nI (dc f g na nb i (d + 1)))), (6, .int (nI (dc f g na nb (i + 1) d))), (0, .ref hc), (1, .int (nI i)), (2, .int (f i)), (3, .ref rb)]) hx hb dX0_moveCostsBackTo_112 hl (k := 3) rfl (z_dec _) (by decide) rfl (fun ls hl => ?_)
            refine lv_goto (tgt := 32) hx hb dX0_moveCostsBackTo_115 (by decide) ?_
            exact ih _ eb2 _ _ ls (by omega) (up_hi (q := fun j' => nI (dc f g na nb i j')) hv1 (by show _ = nI (dc f g na nb i d); rw [dc_s hi (show d < nb by omega), if_pos c3])) (up_lo (q := fun j' => nI (dc f g na nb (i + 1) j')) hv2) he3 hP hD hS (lv_sub hl [0, 1, 4, 5, 6, 7] rfl)
  exact L1 nb _ eb _ _ ls (Nat.le_refl nb) (fun j' h1 h2 => by rw [show j' = nb by omega, pk_us, hd1, hd2, show na - (i + 1) + 1 = na - i by omega]) (fun j' h1 => by rw [pk_un (by omega)]; exact hrc j' (by omega)) (fun i' j' _ => by rw [if_neg (by omega)]) hP hD hS (lv_sub hl [0, 1, 2, 3, 4, 5] rfl)

abbrev rm_X0_findLeastCost : Room := { frames := 3, cells := 0, slots := 0, locals := 74 }
set_option maxHeartbeats 4000000 in
set_option maxRecDepth 100000 in
theorem c_Cmp_find (l : Launch) (dC : Nat → ClassId) (dI : Nat → Nat → Nat) (cI cJ cR : ClassId) (hc qr qe : Nat) (rc : Nat → Int32) (eb : Nat → Int64) (Rw : va_W) (ja ka jb kb ra pa rb pb na nb : Nat) (f g : Nat → Int32) (hna : na ≤ 120) (hnb : nb ≤ 120) (hao : Rw[ja]? = some (rO ra pa na)) (haf : Rw[ka]? = some (rF cI pa f)) (hbo : Rw[jb]? = some (rO rb pb nb)) (hbf : Rw[kb]? = some (rF cI pb g)) : zI l (dC, dI) vwCl (zT cI cJ cR) zNW yX0_findLeastCost wsX0_findLeastCost rm_X0_findLeastCost [.ref hc, .ref ra, .ref rb] (([(hc, .inr (0, [.ref qr, .ref qe])), (qr, .inl (cI, 121, .inl rc)), (qe, .inl (cJ, 240, .inr (.inl eb)))] : va_W) ++ Rw) (fun r w => ∃ (rc' : Nat → Int32) (eb' : Nat → Int64), r = nI (dc f g na nb 0 0) ∧ (∀ i' j', 0 ≤ i' → i' < na → j' < nb → zb eb' i' j' = decide (dc f g na nb (i' + 1) j' ≤ dc f g na nb i' (j' + 1))) ∧ w = (([(hc, .inr (0, [.ref qr, .ref qe])), (qr, .inl (cI, 121, .inl rc')), (qe, .inl (cJ, 240, .inr (.inl eb')))] : va_W) ++ Rw)) := by
  refine z_ofI (cc := cX0_findLeastCost) (maxL := 4) (Or.inl rfl) (by decide) rfl (Nat.le_of_ble_eq_true rfl) ?_
  intro p e s m args below meth c A Q ls hI hret
  obtain ⟨hx, hb, hml, hown, hts, hnm, hA, hK, hN, hP, hD, hS, hl⟩ := hI
  have hown : s.vm.findClass RX0 = some m.cls := hown
  have hl : lv_has ls 4 [(0, .ref hc), (1, .ref ra), (2, .ref rb)] := hl
  have hP : va_P (dC, dI) vwCl (([(hc, .inr (0, [.ref qr, .ref qe])), (qr, .inl (cI, 121, .inl rc)), (qe, .inl (cJ, 240, .inr (.inl eb)))] : va_W) ++ Rw) s.heap := hP
  have hD : va_D A (([(hc, .inr (0, [.ref qr, .ref qe])), (qr, .inl (cI, 121, .inl rc)), (qe, .inl (cJ, 240, .inr (.inl eb)))] : va_W) ++ Rw) := hD
  have hz : ∀ w ∈ zW, w.before args s = true := fun w h => hts w (List.mem_cons_of_mem _ h)
  refine lv_iconst (v := nI 0) hx hb dX0_findLeastCost_0 (by decide) ?_
  refine lv_istore_n (lv' := [(3, .int (nI 0)), (0, .ref hc), (1, .ref ra), (2, .ref rb)]) hx hb dX0_findLeastCost_1 rfl hl (by decide) rfl (fun ls hl => ?_)
  have LB : ∀ (d : Nat) (rc1 : Nat → Int32) (eb1 : Nat → Int64) (H : Heap) (locs : List Loc) (ls : Array Slot), d ≤ na → (∀ j, j ≤ nb → rc1 j = nI (dc f g na nb d j)) → (∀ i' j', d ≤ i' → i' < na → j' < nb → zb eb1 i' j' = decide (dc f g na nb (i' + 1) j' ≤ dc f g na nb i' (j' + 1))) → va_P (dC, dI) vwCl (([(hc, .inr (0, [.ref qr, .ref qe])), (qr, .inl (cI, 121, .inl rc1)), (qe, .inl (cJ, 240, .inr (.inl eb1)))] : va_W) ++ Rw) H → va_D A (([(hc, .inr (0, [.ref qr, .ref qe])), (qr, .inl (cI, 121, .inl rc1)), (qe, .inl (cJ, 240, .inr (.inl eb1)))] : va_W) ++ Rw) → va_S A s.heap H locs → lv_has ls 4 [(3, .int (nI d - nI 1)), (0, .ref hc), (1, .ref ra), (2, .ref rb)] → W p l e rm_X0_findLeastCost s m args below meth c H locs 0 0 Q (F0 m 35 ls []) := by
    intro d
    induction d with
    | zero =>
      intro rc1 eb1 H locs ls hdn hv1 hv2 hP hD hS hl
      refine lv_iload_n hx hb dX0_findLeastCost_35 rfl (lv_at hl 0 rfl) ?_
      refine lv_if_lt (tgt := 57) hx hb dX0_findLeastCost_36 (by decide) (fun c1 => ?_) (fun c1 => ?_)
      · refine lv_aload_n hx hb dX0_findLeastCost_57 rfl (lv_at hl 1 rfl) ?_
        refine va_get (D := (dC, dI)) (ci := 0) (v := .ref qr) (C := RX0) (T := TX0) (N := 2) hx hb hz hinX0 hown hK hP 0 rfl rfl 0 (by decide) (hz _ zw_72) (fun _ h9 => h9) rfl dX0_findLeastCost_58 ?_
        refine lv_iconst (v := nI 0) hx hb dX0_findLeastCost_61 (by decide) ?_
        refine z_iald (v := nI (dc f g na nb 0 0)) hx hb hK hP 1 0 rfl rfl (k := 0) (by omega) (by omega) (hv1 0 (Nat.zero_le nb)) dX0_findLeastCost_62 ?_
        exact hret H locs _ (([(hc, .inr (0, [.ref qr, .ref qe])), (qr, .inl (cI, 121, .inl rc1)), (qe, .inl (cJ, 240, .inr (.inl eb1)))] : va_W) ++ Rw) _ ls hP hD hS dX0_findLeastCost_63 ⟨rc1, eb1, rfl, hv2, rfl⟩
      · exact absurd (show nI 0 - nI 1 < 0 by decide) c1
    | succ d ih =>
      intro rc1 eb1 H locs ls hdn hv1 hv2 hP hD hS hl
      rw [show nI (d + 1) - nI 1 = nI d from nI_pred d] at hl
      refine lv_iload_n hx hb dX0_findLeastCost_35 rfl (lv_at hl 0 rfl) ?_
      refine lv_if_lt (tgt := 57) hx hb dX0_findLeastCost_36 (by decide) (fun c1 => ?_) (fun c1 => ?_)
      · exact absurd c1 (nI_pos (by omega))
      · refine lv_aload_n hx hb dX0_findLeastCost_39 rfl (lv_at hl 1 rfl) ?_
        refine lv_iload_n hx hb dX0_findLeastCost_40 rfl (lv_at hl 0 rfl) ?_
        refine lv_aload_n hx hb dX0_findLeastCost_41 rfl (lv_at hl 2 rfl) ?_
        refine va_getN (D := (dC, dI)) (ci := 2) (v := .ref pa) (C := RX2) (T := TX2) (N := 2) hx hb hz hinX2 hown hK hP _ (z_right hao) rfl 0 (by decide) (hN.use _ zn_52) (fun _ h9 => h9) rfl dX0_findLeastCost_42 ?_
        refine lv_iload_n hx hb dX0_findLeastCost_45 rfl (lv_at hl 0 rfl) ?_
        refine z_iald (v := f d) hx hb hK hP _ 0 (z_right haf) rfl (k := d) (by omega) (by omega) rfl dX0_findLeastCost_46 ?_
        refine lv_aload_n hx hb dX0_findLeastCost_47 rfl (lv_at hl 3 rfl) ?_
        refine z_cvP (wr := ([] : va_W)) (cx := ([(hc, .inr (0, [.ref qr, .ref qe])), (qr, .inl (cI, 121, .inl rc1)), (qe, .inl (cJ, 240, .inr (.inl eb1)))] : va_W)) hP hD hS hA [0, 1, 2] [] rfl rfl (by decide) (by decide) (va_runV (As := [.int (nI d), .int (f d), .ref rb]) (rest := []) ⟨hx, hb, hml, hown, hz⟩ (c_Cmp_move l dC dI cI cJ cR hc qr qe rc1 eb1 Rw ja ka jb kb ra pa rb pb na nb f g d (by omega) hna hnb hao haf hbo hbf hv1 H.size) (cwV 3 hz (zgV zw_298 zw_300 zw_4 zw_24 zw_301) rfl rfl rfl (by decide +kernel) ⟨Nat.le_of_ble_eq_true rfl, Nat.le_of_ble_eq_true rfl⟩) ⟨zP_blind, z_recv hK hP (ci := 0) rfl rfl (q0 := 0) rfl, z_preP hK hN hP hD [0, 1, 2] rfl (by decide)⟩ rfl rfl hl.1 rfl (lv_room (Nat.le_of_ble_eq_true rfl)) dX0_findLeastCost_48 ⟨Nat.le_of_ble_eq_true rfl, Nat.le_of_ble_eq_true rfl⟩) (fun w1 H locs hw hjn hS => ?_)
        obtain ⟨rc2, eb2, hr2, he2, hw⟩ := hw
        obtain ⟨hP, hD⟩ := hjn ([(hc, .inr (0, [.ref qr, .ref qe])), (qr, .inl (cI, 121, .inl rc2)), (qe, .inl (cJ, 240, .inr (.inl eb2)))] : va_W) Rw hw
        have hP : va_P (dC, dI) vwCl (([(hc, .inr (0, [.ref qr, .ref qe])), (qr, .inl (cI, 121, .inl rc2)), (qe, .inl (cJ, 240, .inr (.inl eb2)))] : va_W) ++ Rw) H := hP
        have hD : va_D A (([(hc, .inr (0, [.ref qr, .ref qe])), (qr, .inl (cI, 121, .inl rc2)), (qe, .inl (cJ, 240, .inr (.inl eb2)))] : va_W) ++ Rw) := hD
        refine lv_iinc (v := nI d - nI 1) (lv' := [(3, .int (nI d - nI 1)), (0, .ref hc), (1, .ref ra), (2, .ref rb)]) hx hb dX0_findLeastCost_51 hl (k := 0) rfl (z_dec _) (by decide) rfl (fun ls hl => ?_)
        refine lv_goto (tgt := 35) hx hb dX0_findLeastCost_54 (by decide) ?_
        exact ih rc2 eb2 _ _ ls (by omega) hr2 (fun i' j' h1 h2 h3 => by rw [he2 i' j' (by omega)]; by_cases e9 : i' = d; (rw [if_pos ⟨e9, h3⟩, e9]); (rw [if_neg (fun z => e9 z.1)]; exact hv2 i' j' (by omega) h2 h3)) hP hD hS (lv_sub hl [0, 1, 2, 3] rfl)
  have LA : ∀ (d : Nat) (k : Nat) (rc1 : Nat → Int32) (H : Heap) (locs : List Loc) (ls : Array Slot), k + d = nb + 1 → (∀ j', j' < k → rc1 j' = nI (nb - j')) → va_P (dC, dI) vwCl (([(hc, .inr (0, [.ref qr, .ref qe])), (qr, .inl (cI, 121, .inl rc1)), (qe, .inl (cJ, 240, .inr (.inl eb)))] : va_W) ++ Rw) H → va_D A (([(hc, .inr (0, [.ref qr, .ref qe])), (qr, .inl (cI, 121, .inl rc1)), (qe, .inl (cJ, 240, .inr (.inl eb)))] : va_W) ++ Rw) → va_S A s.heap H locs → lv_has ls 4 [(3, .int (nI k)), (0, .ref hc), (1, .ref ra), (2, .ref rb)] → W p l e rm_X0_findLeastCost s m args below meth c H locs 0 0 Q (F0 m 2 ls []) := by
    intro d
    induction d with
    | zero =>
      intro k rc1 H locs ls hk ha hP hD hS hl
      have hk : k = nb + 1 := hk
      refine lv_iload_n hx hb dX0_findLeastCost_2 rfl (lv_at hl 0 rfl) ?_
      refine lv_aload_n hx hb dX0_findLeastCost_3 rfl (lv_at hl 3 rfl) ?_
      refine va_getN (D := (dC, dI)) (ci := 2) (v := .int (nI nb)) (C := RX2) (T := TX2) (N := 2) hx hb hz hinX2 hown hK hP _ (z_right hbo) rfl 1 (by decide) (hN.use _ zn_58) (fun _ h9 => h9) rfl dX0_findLeastCost_4 ?_
      refine lv_icmp_gt (tgt := 28) hx hb dX0_findLeastCost_7 (by decide) (fun bb1 => ?_) (fun bb1 => ?_)
      · have bb1 : nb < k := (nI_ltI (by omega) (by omega)).mp bb1
        refine lv_aload_n hx hb dX0_findLeastCost_28 rfl (lv_at hl 2 rfl) ?_
        refine va_getN (D := (dC, dI)) (ci := 2) (v := .int (nI na)) (C := RX2) (T := TX2) (N := 2) hx hb hz hinX2 hown hK hP _ (z_right hao) rfl 1 (by decide) (hN.use _ zn_58) (fun _ h9 => h9) rfl dX0_findLeastCost_29 ?_
        refine lv_iconst (v := nI 1) hx hb dX0_findLeastCost_32 (by decide) ?_
        refine lv_isub hx hb dX0_findLeastCost_33 ?_
        refine lv_istore_n (lv' := [(3, .int ((nI na) - (nI 1))), (0, .ref hc), (1, .ref ra), (2, .ref rb)]) hx hb dX0_findLeastCost_34 rfl hl (by decide) rfl (fun ls hl => ?_)
        exact LB na rc1 eb _ _ ls (Nat.le_refl na) (fun j' h1 => by rw [ha j' (by omega), dc_na]) (fun i' j' h1 h2 => absurd h2 (by omega)) hP hD hS (lv_sub hl [0, 1, 2, 3] rfl)
      · have bb1 : ¬ (nb < k) := fun h => bb1 ((nI_ltI (by omega) (by omega)).mpr h)
        omega
    | succ d ih =>
      intro k rc1 H locs ls hk ha hP hD hS hl
      refine lv_iload_n hx hb dX0_findLeastCost_2 rfl (lv_at hl 0 rfl) ?_
      refine lv_aload_n hx hb dX0_findLeastCost_3 rfl (lv_at hl 3 rfl) ?_
      refine va_getN (D := (dC, dI)) (ci := 2) (v := .int (nI nb)) (C := RX2) (T := TX2) (N := 2) hx hb hz hinX2 hown hK hP _ (z_right hbo) rfl 1 (by decide) (hN.use _ zn_58) (fun _ h9 => h9) rfl dX0_findLeastCost_4 ?_
      refine lv_icmp_gt (tgt := 28) hx hb dX0_findLeastCost_7 (by decide) (fun bb2 => ?_) (fun bb2 => ?_)
      · have bb2 : nb < k := (nI_ltI (by omega) (by omega)).mp bb2
        omega
      · have bb2 : ¬ (nb < k) := fun h => bb2 ((nI_ltI (by omega) (by omega)).mpr h)
        refine lv_aload_n hx hb dX0_findLeastCost_10 rfl (lv_at hl 1 rfl) ?_
        refine va_get (D := (dC, dI)) (ci := 0) (v := .ref qr) (C := RX0) (T := TX0) (N := 2) hx hb hz hinX0 hown hK hP 0 rfl rfl 0 (by decide) (hz _ zw_72) (fun _ h9 => h9) rfl dX0_findLeastCost_11 ?_
        refine lv_iload_n hx hb dX0_findLeastCost_14 rfl (lv_at hl 0 rfl) ?_
        refine lv_aload_n hx hb dX0_findLeastCost_15 rfl (lv_at hl 3 rfl) ?_
        refine va_getN (D := (dC, dI)) (ci := 2) (v := .int (nI nb)) (C := RX2) (T := TX2) (N := 2) hx hb hz hinX2 hown hK hP _ (z_right hbo) rfl 1 (by decide) (hN.use _ zn_58) (fun _ h9 => h9) rfl dX0_findLeastCost_16 ?_
        refine lv_iload_n hx hb dX0_findLeastCost_19 rfl (lv_at hl 0 rfl) ?_
        refine t_isub hx hb dX0_findLeastCost_20 (show nI nb - nI k = nI (nb - k) from (pk_sub (by omega))) ?_
        refine z_iast hx hb hK hP hD hS 1 0 rfl rfl (k := k) (by omega) (by omega) dX0_findLeastCost_21 (fun H locs hP hD hS => ?_)
        have hP : va_P (dC, dI) vwCl (([(hc, .inr (0, [.ref qr, .ref qe])), (qr, .inl (cI, 121, .inl (upd rc1 k (nI (nb - k))))), (qe, .inl (cJ, 240, .inr (.inl eb)))] : va_W) ++ Rw) H := hP
        have hD : va_D A (([(hc, .inr (0, [.ref qr, .ref qe])), (qr, .inl (cI, 121, .inl (upd rc1 k (nI (nb - k))))), (qe, .inl (cJ, 240, .inr (.inl eb)))] : va_W) ++ Rw) := hD
        refine lv_iinc (v := nI (k + 1)) (lv' := [(3, .int (nI (k + 1))), (0, .ref hc), (1, .ref ra), (2, .ref rb)]) hx hb dX0_findLeastCost_22 hl (k := 0) rfl (show nI k + 1 = nI (k + 1) from nI_1 _) (by decide) rfl (fun ls hl => ?_)
        refine lv_goto (tgt := 2) hx hb dX0_findLeastCost_25 (by decide) ?_
        exact ih (k + 1) _ _ _ ls (by omega) (fun j' h1 => by by_cases e9 : j' = k; (rw [e9, pk_us]); (rw [pk_un e9]; exact ha j' (by omega))) hP hD hS (lv_sub hl [0, 1, 2, 3] rfl)
  exact LA (nb + 1) 0 rc _ _ ls (by omega) (fun j' h1 => absurd h1 (Nat.not_lt_zero j')) hP hD hS (lv_sub hl [0, 1, 2, 3] rfl)

abbrev rm_X0_writeScript : Room := { frames := 2, cells := 0, slots := 0, locals := 43 }
set_option maxHeartbeats 4000000 in
set_option maxRecDepth 100000 in
theorem c_Cmp_write (l : Launch) (dC : Nat → ClassId) (dI : Nat → Nat → Nat) (cI cJ cR : ClassId) (hc qr qe : Nat) (rc : Nat → Int32) (eb : Nat → Int64) (h qk qf qt qv : Nat) (K F G V : Nat → Int32) (Rw : va_W) (ja ka jb kb ra pa rb pb na nb : Nat) (f g : Nat → Int32) (n0 : Int32) (hna : na ≤ 120) (hnb : nb ≤ 120) (hao : Rw[ja]? = some (rO ra pa na)) (haf : Rw[ka]? = some (rF cI pa f)) (hbo : Rw[jb]? = some (rO rb pb nb)) (hbf : Rw[kb]? = some (rF cI pb g)) (hbits : ∀ i' j', 0 ≤ i' → i' < na → j' < nb → zb eb i' j' = decide (dc f g na nb (i' + 1) j' ≤ dc f g na nb i' (j' + 1))) : zV l (dC, dI) vwCl (zT cI cJ cR) zNW yX0_writeScript wsX0_writeScript rm_X0_writeScript [.ref hc, .ref ra, .ref rb, .ref h] (([(hc, .inr (0, [.ref qr, .ref qe])), (qr, .inl (cI, 121, .inl rc)), (qe, .inl (cJ, 240, .inr (.inl eb))), (h, .inr (3, [.ref qk, .ref qf, .ref qt, .ref qv, .int n0])), (qk, .inl (cI, 240, .inl K)), (qf, .inl (cI, 240, .inl F)), (qt, .inl (cI, 240, .inl G)), (qv, .inl (cI, 240, .inl V))] : va_W) ++ Rw) (fun w => ∃ (n : Nat) (K' F' G' V' : Nat → Int32), n ≤ 240 ∧ (ps f g na nb n) = (na, nb) ∧ (∀ k', k' < n → (ps f g na nb k').1 < na ∨ (ps f g na nb k').2 < nb) ∧ agr f g na nb K' F' G' V' n ∧ w = (([(hc, .inr (0, [.ref qr, .ref qe])), (qr, .inl (cI, 121, .inl rc)), (qe, .inl (cJ, 240, .inr (.inl eb))), (h, .inr (3, [.ref qk, .ref qf, .ref qt, .ref qv, .int (nI n)])), (qk, .inl (cI, 240, .inl K')), (qf, .inl (cI, 240, .inl F')), (qt, .inl (cI, 240, .inl G')), (qv, .inl (cI, 240, .inl V'))] : va_W) ++ Rw)) := by
  refine z_ofV (cc := cX0_writeScript) (maxL := 7) (by decide) rfl (Nat.le_of_ble_eq_true rfl) ?_
  intro p e s m args below meth c A Q ls hI hret
  obtain ⟨hx, hb, hml, hown, hts, hnm, hA, hK, hN, hP, hD, hS, hl⟩ := hI
  have hown : s.vm.findClass RX0 = some m.cls := hown
  have hl : lv_has ls 7 [(0, .ref hc), (1, .ref ra), (2, .ref rb), (3, .ref h)] := hl
  have hP : va_P (dC, dI) vwCl (([(hc, .inr (0, [.ref qr, .ref qe])), (qr, .inl (cI, 121, .inl rc)), (qe, .inl (cJ, 240, .inr (.inl eb))), (h, .inr (3, [.ref qk, .ref qf, .ref qt, .ref qv, .int n0])), (qk, .inl (cI, 240, .inl K)), (qf, .inl (cI, 240, .inl F)), (qt, .inl (cI, 240, .inl G)), (qv, .inl (cI, 240, .inl V))] : va_W) ++ Rw) s.heap := hP
  have hD : va_D A (([(hc, .inr (0, [.ref qr, .ref qe])), (qr, .inl (cI, 121, .inl rc)), (qe, .inl (cJ, 240, .inr (.inl eb))), (h, .inr (3, [.ref qk, .ref qf, .ref qt, .ref qv, .int n0])), (qk, .inl (cI, 240, .inl K)), (qf, .inl (cI, 240, .inl F)), (qt, .inl (cI, 240, .inl G)), (qv, .inl (cI, 240, .inl V))] : va_W) ++ Rw) := hD
  have hz : ∀ w ∈ zW, w.before args s = true := fun w h => hts w (List.mem_cons_of_mem _ h)
  refine lv_iconst (v := nI 0) hx hb dX0_writeScript_0 (by decide) ?_
  refine lv_istore (lv' := [(4, .int (nI 0)), (0, .ref hc), (1, .ref ra), (2, .ref rb), (3, .ref h)]) hx hb dX0_writeScript_1 hl (by decide) rfl (fun ls hl => ?_)
  refine lv_iconst (v := nI 0) hx hb dX0_writeScript_3 (by decide) ?_
  refine lv_istore (lv' := [(5, .int (nI 0)), (4, .int (nI 0)), (0, .ref hc), (1, .ref ra), (2, .ref rb), (3, .ref h)]) hx hb dX0_writeScript_4 hl (by decide) rfl (fun ls hl => ?_)
  refine lv_aload_n hx hb dX0_writeScript_6 rfl (lv_at hl 5 rfl) ?_
  refine z_cvQ (wr := ([(hc, .inr (0, [.ref qr, .ref qe])), (qr, .inl (cI, 121, .inl rc)), (qe, .inl (cJ, 240, .inr (.inl eb)))] : va_W)) (cx := ([(h, .inr (3, [.ref qk, .ref qf, .ref qt, .ref qv, .int n0])), (qk, .inl (cI, 240, .inl K)), (qf, .inl (cI, 240, .inl F)), (qt, .inl (cI, 240, .inl G)), (qv, .inl (cI, 240, .inl V))] : va_W)) hP hD hS hA [3, 4, 5, 6, 7] [0, 1, 2] rfl rfl (by decide) (by decide) (va_runV (As := []) (rest := []) ⟨hx, hb, hml, hown, hz⟩ (c_Script_begin l dC dI cI cJ cR h qk qf qt qv K F G V n0 s.heap.size) (cwV 0 hz (zgV zw_317 zw_318 zw_319 zw_25 zw_320) rfl rfl rfl (by decide +kernel) ⟨Nat.le_of_ble_eq_true rfl, Nat.le_of_ble_eq_true rfl⟩) ⟨zP_blind, z_recv hK hP (ci := 3) rfl rfl (q0 := 3) rfl, z_preQ hK hN hP hD [3, 4, 5, 6, 7] rfl (by decide)⟩ rfl rfl hl.1 rfl (lv_room (Nat.le_of_ble_eq_true rfl)) dX0_writeScript_7 ⟨Nat.le_of_ble_eq_true rfl, Nat.le_of_ble_eq_true rfl⟩) (fun w1 H locs hw hP hD hS => ?_)
  subst hw
  have hP : va_P (dC, dI) vwCl (([(hc, .inr (0, [.ref qr, .ref qe])), (qr, .inl (cI, 121, .inl rc)), (qe, .inl (cJ, 240, .inr (.inl eb))), (h, .inr (3, [.ref qk, .ref qf, .ref qt, .ref qv, .int (nI 0)])), (qk, .inl (cI, 240, .inl K)), (qf, .inl (cI, 240, .inl F)), (qt, .inl (cI, 240, .inl G)), (qv, .inl (cI, 240, .inl V))] : va_W) ++ Rw) H := hP
  have hD : va_D A (([(hc, .inr (0, [.ref qr, .ref qe])), (qr, .inl (cI, 121, .inl rc)), (qe, .inl (cJ, 240, .inr (.inl eb))), (h, .inr (3, [.ref qk, .ref qf, .ref qt, .ref qv, .int (nI 0)])), (qk, .inl (cI, 240, .inl K)), (qf, .inl (cI, 240, .inl F)), (qt, .inl (cI, 240, .inl G)), (qv, .inl (cI, 240, .inl V))] : va_W) ++ Rw) := hD
  refine lv_iconst (v := nI 0) hx hb dX0_writeScript_10 (by decide) ?_
  refine lv_istore (lv' := [(6, .int (nI 0)), (5, .int (nI 0)), (4, .int (nI 0)), (0, .ref hc), (1, .ref ra), (2, .ref rb), (3, .ref h)]) hx hb dX0_writeScript_11 hl (by decide) rfl (fun ls hl => ?_)
  have L1 : ∀ (d : Nat) (k : Nat) (i : Nat) (j : Nat) (K1 : Nat → Int32) (F1 : Nat → Int32) (G1 : Nat → Int32) (V1 : Nat → Int32) (H : Heap) (locs : List Loc) (ls : Array Slot), k + d = 240 → ps f g na nb k = (i, j) → i ≤ na → j ≤ nb → k ≤ i + j → (∀ k', k' < k → (ps f g na nb k').1 < na ∨ (ps f g na nb k').2 < nb) → agr f g na nb K1 F1 G1 V1 k → va_P (dC, dI) vwCl (([(hc, .inr (0, [.ref qr, .ref qe])), (qr, .inl (cI, 121, .inl rc)), (qe, .inl (cJ, 240, .inr (.inl eb))), (h, .inr (3, [.ref qk, .ref qf, .ref qt, .ref qv, .int (nI k)])), (qk, .inl (cI, 240, .inl K1)), (qf, .inl (cI, 240, .inl F1)), (qt, .inl (cI, 240, .inl G1)), (qv, .inl (cI, 240, .inl V1))] : va_W) ++ Rw) H → va_D A (([(hc, .inr (0, [.ref qr, .ref qe])), (qr, .inl (cI, 121, .inl rc)), (qe, .inl (cJ, 240, .inr (.inl eb))), (h, .inr (3, [.ref qk, .ref qf, .ref qt, .ref qv, .int (nI k)])), (qk, .inl (cI, 240, .inl K1)), (qf, .inl (cI, 240, .inl F1)), (qt, .inl (cI, 240, .inl G1)), (qv, .inl (cI, 240, .inl V1))] : va_W) ++ Rw) → va_S A s.heap H locs → lv_has ls 7 [(6, .int (nI k)), (5, .int (nI j)), (4, .int (nI i)), (0, .ref hc), (1, .ref ra), (2, .ref rb), (3, .ref h)] → W p l e rm_X0_writeScript s m args below meth c H locs 0 0 Q (F0 m 13 ls []) := by
    intro d
    induction d with
    | zero =>
      intro k i j K1 F1 G1 V1 H locs ls hk hps hi hj hij hnd hag hP hD hS hl
      refine lv_iload hx hb dX0_writeScript_13 (lv_at hl 0 rfl) ?_
      refine lv_sipush (v := nI 240) hx hb dX0_writeScript_15 (by decide) ?_
      refine lv_icmp_ge (tgt := 175) hx hb dX0_writeScript_18 (by decide) (fun bb1 => ?_) (fun bb1 => ?_)
      · have bb1 : 240 ≤ k := (nI_leI (by omega) (by omega)).mp bb1
        exact hret H locs (([(hc, .inr (0, [.ref qr, .ref qe])), (qr, .inl (cI, 121, .inl rc)), (qe, .inl (cJ, 240, .inr (.inl eb))), (h, .inr (3, [.ref qk, .ref qf, .ref qt, .ref qv, .int (nI k)])), (qk, .inl (cI, 240, .inl K1)), (qf, .inl (cI, 240, .inl F1)), (qt, .inl (cI, 240, .inl G1)), (qv, .inl (cI, 240, .inl V1))] : va_W) ++ Rw) _ ls hP hD hS dX0_writeScript_175 ⟨k, K1, F1, G1, V1, by omega, by rw [hps, show i = na by omega, show j = nb by omega], hnd, hag, rfl⟩
      · have bb1 : ¬ (240 ≤ k) := fun h => bb1 ((nI_leI (by omega) (by omega)).mpr h)
        omega
    | succ d ih =>
      intro k i j K1 F1 G1 V1 H locs ls hk hps hi hj hij hnd hag hP hD hS hl
      refine lv_iload hx hb dX0_writeScript_13 (lv_at hl 0 rfl) ?_
      refine lv_sipush (v := nI 240) hx hb dX0_writeScript_15 (by decide) ?_
      refine lv_icmp_ge (tgt := 175) hx hb dX0_writeScript_18 (by decide) (fun bb2 => ?_) (fun bb2 => ?_)
      · have bb2 : 240 ≤ k := (nI_leI (by omega) (by omega)).mp bb2
        exact hret H locs (([(hc, .inr (0, [.ref qr, .ref qe])), (qr, .inl (cI, 121, .inl rc)), (qe, .inl (cJ, 240, .inr (.inl eb))), (h, .inr (3, [.ref qk, .ref qf, .ref qt, .ref qv, .int (nI k)])), (qk, .inl (cI, 240, .inl K1)), (qf, .inl (cI, 240, .inl F1)), (qt, .inl (cI, 240, .inl G1)), (qv, .inl (cI, 240, .inl V1))] : va_W) ++ Rw) _ ls hP hD hS dX0_writeScript_175 ⟨k, K1, F1, G1, V1, by omega, by rw [hps, show i = na by omega, show j = nb by omega], hnd, hag, rfl⟩
      · have bb2 : ¬ (240 ≤ k) := fun h => bb2 ((nI_leI (by omega) (by omega)).mpr h)
        refine lv_iload hx hb dX0_writeScript_21 (lv_at hl 2 rfl) ?_
        refine lv_aload_n hx hb dX0_writeScript_23 rfl (lv_at hl 4 rfl) ?_
        refine va_getN (D := (dC, dI)) (ci := 2) (v := .int (nI na)) (C := RX2) (T := TX2) (N := 2) hx hb hz hinX2 hown hK hP _ (z_right hao) rfl 1 (by decide) (hN.use _ zn_58) (fun _ h9 => h9) rfl dX0_writeScript_24 ?_
        refine lv_icmp_lt (tgt := 39) hx hb dX0_writeScript_27 (by decide) (fun bb3 => ?_) (fun bb3 => ?_)
        · have bb3 : i < na := (nI_ltI (by omega) (by omega)).mp bb3
          refine lv_iload hx hb dX0_writeScript_39 (lv_at hl 2 rfl) ?_
          refine lv_aload_n hx hb dX0_writeScript_41 rfl (lv_at hl 4 rfl) ?_
          refine va_getN (D := (dC, dI)) (ci := 2) (v := .int (nI na)) (C := RX2) (T := TX2) (N := 2) hx hb hz hinX2 hown hK hP _ (z_right hao) rfl 1 (by decide) (hN.use _ zn_58) (fun _ h9 => h9) rfl dX0_writeScript_42 ?_
          refine lv_icmp_ge (tgt := 99) hx hb dX0_writeScript_45 (by decide) (fun bb4 => ?_) (fun bb4 => ?_)
          · have bb4 : na ≤ i := (nI_leI (by omega) (by omega)).mp bb4
            refine lv_iload hx hb dX0_writeScript_99 (lv_at hl 2 rfl) ?_
            refine lv_aload_n hx hb dX0_writeScript_101 rfl (lv_at hl 4 rfl) ?_
            refine va_getN (D := (dC, dI)) (ci := 2) (v := .int (nI na)) (C := RX2) (T := TX2) (N := 2) hx hb hz hinX2 hown hK hP _ (z_right hao) rfl 1 (by decide) (hN.use _ zn_58) (fun _ h9 => h9) rfl dX0_writeScript_102 ?_
            refine lv_icmp_ge (tgt := 150) hx hb dX0_writeScript_105 (by decide) (fun bb5 => ?_) (fun bb5 => ?_)
            · have bb5 : na ≤ i := (nI_leI (by omega) (by omega)).mp bb5
              refine lv_aload_n hx hb dX0_writeScript_150 rfl (lv_at hl 6 rfl) ?_
              refine lv_iconst (v := nI 2) hx hb dX0_writeScript_151 (by decide) ?_
              refine lv_iload hx hb dX0_writeScript_152 (lv_at hl 2 rfl) ?_
              refine lv_iload hx hb dX0_writeScript_154 (lv_at hl 1 rfl) ?_
              refine lv_aload_n hx hb dX0_writeScript_156 rfl (lv_at hl 5 rfl) ?_
              refine va_getN (D := (dC, dI)) (ci := 2) (v := .ref pb) (C := RX2) (T := TX2) (N := 2) hx hb hz hinX2 hown hK hP _ (z_right hbo) rfl 0 (by decide) (hN.use _ zn_52) (fun _ h9 => h9) rfl dX0_writeScript_157 ?_
              refine lv_iload hx hb dX0_writeScript_160 (lv_at hl 1 rfl) ?_
              refine z_iald (v := g j) hx hb hK hP _ 0 (z_right hbf) rfl (k := j) (by omega) (by omega) rfl dX0_writeScript_162 ?_
              refine z_cvQ (wr := ([(hc, .inr (0, [.ref qr, .ref qe])), (qr, .inl (cI, 121, .inl rc)), (qe, .inl (cJ, 240, .inr (.inl eb)))] : va_W)) (cx := ([(h, .inr (3, [.ref qk, .ref qf, .ref qt, .ref qv, .int (nI k)])), (qk, .inl (cI, 240, .inl K1)), (qf, .inl (cI, 240, .inl F1)), (qt, .inl (cI, 240, .inl G1)), (qv, .inl (cI, 240, .inl V1))] : va_W)) hP hD hS hA [3, 4, 5, 6, 7] [0, 1, 2] rfl rfl (by decide) (by decide) (va_runV (As := [.int (nI 2), .int (nI i), .int (nI j), .int (g j)]) (rest := []) ⟨hx, hb, hml, hown, hz⟩ (c_Script_append l dC dI cI cJ cR h qk qf qt qv K1 F1 G1 V1 k (nI 2) (nI i) (nI j) (g j) (by omega) H.size) (cwV 4 hz (zgV zw_321 zw_322 zw_323 zw_25 zw_324) rfl rfl rfl (by decide +kernel) ⟨Nat.le_of_ble_eq_true rfl, Nat.le_of_ble_eq_true rfl⟩) ⟨zP_blind, z_recv hK hP (ci := 3) rfl rfl (q0 := 3) rfl, z_preQ hK hN hP hD [3, 4, 5, 6, 7] rfl (by decide)⟩ rfl rfl hl.1 rfl (lv_room (Nat.le_of_ble_eq_true rfl)) dX0_writeScript_163 ⟨Nat.le_of_ble_eq_true rfl, Nat.le_of_ble_eq_true rfl⟩) (fun w1 H locs hw hP hD hS => ?_)
              subst hw
              have hP : va_P (dC, dI) vwCl (([(hc, .inr (0, [.ref qr, .ref qe])), (qr, .inl (cI, 121, .inl rc)), (qe, .inl (cJ, 240, .inr (.inl eb))), (h, .inr (3, [.ref qk, .ref qf, .ref qt, .ref qv, .int (nI (k + 1))])), (qk, .inl (cI, 240, .inl (upd K1 k (nI 2)))), (qf, .inl (cI, 240, .inl (upd F1 k (nI i)))), (qt, .inl (cI, 240, .inl (upd G1 k (nI j)))), (qv, .inl (cI, 240, .inl (upd V1 k (g j))))] : va_W) ++ Rw) H := hP
              have hD : va_D A (([(hc, .inr (0, [.ref qr, .ref qe])), (qr, .inl (cI, 121, .inl rc)), (qe, .inl (cJ, 240, .inr (.inl eb))), (h, .inr (3, [.ref qk, .ref qf, .ref qt, .ref qv, .int (nI (k + 1))])), (qk, .inl (cI, 240, .inl (upd K1 k (nI 2)))), (qf, .inl (cI, 240, .inl (upd F1 k (nI i)))), (qt, .inl (cI, 240, .inl (upd G1 k (nI j)))), (qv, .inl (cI, 240, .inl (upd V1 k (g j))))] : va_W) ++ Rw) := hD
              refine lv_iinc (v := nI (j + 1)) (lv' := [(5, .int (nI (j + 1))), (6, .int (nI k)), (4, .int (nI i)), (0, .ref hc), (1, .ref ra), (2, .ref rb), (3, .ref h)]) hx hb dX0_writeScript_166 hl (k := 1) rfl (show nI j + 1 = nI (j + 1) from nI_1 _) (by decide) rfl (fun ls hl => ?_)
              refine lv_iinc (v := nI (k + 1)) (lv' := [(6, .int (nI (k + 1))), (5, .int (nI (j + 1))), (4, .int (nI i)), (0, .ref hc), (1, .ref ra), (2, .ref rb), (3, .ref h)]) hx hb dX0_writeScript_169 hl (k := 1) rfl (show nI k + 1 = nI (k + 1) from nI_1 _) (by decide) rfl (fun ls hl => ?_)
              refine lv_goto (tgt := 13) hx hb dX0_writeScript_172 (by decide) ?_
              have hkd : kd f g na nb (ps f g na nb k).1 (ps f g na nb k).2 = 2 := by rw [hps]; exact kd_2a (by omega)
              exact ih (k + 1) i (j + 1) _ _ _ _ _ _ ls (by omega) (by rw [ps_s, hkd, hps]; rfl) (by omega) (by omega) (by omega) (lt_s hnd (by rw [hps]; show i < na ∨ j < nb; omega)) (ag_s hag hkd hps (by rw [vl_2 hkd, hps])) hP hD hS (lv_sub hl [0, 1, 2, 3, 4, 5, 6] rfl)
            · have bb5 : ¬ (na ≤ i) := fun h => bb5 ((nI_leI (by omega) (by omega)).mpr h)
              omega
          · have bb4 : ¬ (na ≤ i) := fun h => bb4 ((nI_leI (by omega) (by omega)).mpr h)
            refine lv_iload hx hb dX0_writeScript_48 (lv_at hl 1 rfl) ?_
            refine lv_aload_n hx hb dX0_writeScript_50 rfl (lv_at hl 5 rfl) ?_
            refine va_getN (D := (dC, dI)) (ci := 2) (v := .int (nI nb)) (C := RX2) (T := TX2) (N := 2) hx hb hz hinX2 hown hK hP _ (z_right hbo) rfl 1 (by decide) (hN.use _ zn_58) (fun _ h9 => h9) rfl dX0_writeScript_51 ?_
            refine lv_icmp_ge (tgt := 99) hx hb dX0_writeScript_54 (by decide) (fun bb6 => ?_) (fun bb6 => ?_)
            · have bb6 : nb ≤ j := (nI_leI (by omega) (by omega)).mp bb6
              refine lv_iload hx hb dX0_writeScript_99 (lv_at hl 2 rfl) ?_
              refine lv_aload_n hx hb dX0_writeScript_101 rfl (lv_at hl 4 rfl) ?_
              refine va_getN (D := (dC, dI)) (ci := 2) (v := .int (nI na)) (C := RX2) (T := TX2) (N := 2) hx hb hz hinX2 hown hK hP _ (z_right hao) rfl 1 (by decide) (hN.use _ zn_58) (fun _ h9 => h9) rfl dX0_writeScript_102 ?_
              refine lv_icmp_ge (tgt := 150) hx hb dX0_writeScript_105 (by decide) (fun bb7 => ?_) (fun bb7 => ?_)
              · have bb7 : na ≤ i := (nI_leI (by omega) (by omega)).mp bb7
                omega
              · have bb7 : ¬ (na ≤ i) := fun h => bb7 ((nI_leI (by omega) (by omega)).mpr h)
                refine lv_iload hx hb dX0_writeScript_108 (lv_at hl 1 rfl) ?_
                refine lv_aload_n hx hb dX0_writeScript_110 rfl (lv_at hl 5 rfl) ?_
                refine va_getN (D := (dC, dI)) (ci := 2) (v := .int (nI nb)) (C := RX2) (T := TX2) (N := 2) hx hb hz hinX2 hown hK hP _ (z_right hbo) rfl 1 (by decide) (hN.use _ zn_58) (fun _ h9 => h9) rfl dX0_writeScript_111 ?_
                refine lv_icmp_ge (tgt := 128) hx hb dX0_writeScript_114 (by decide) (fun bb8 => ?_) (fun bb8 => ?_)
                · have bb8 : nb ≤ j := (nI_leI (by omega) (by omega)).mp bb8
                  refine lv_aload_n hx hb dX0_writeScript_128 rfl (lv_at hl 6 rfl) ?_
                  refine lv_iconst (v := nI 1) hx hb dX0_writeScript_129 (by decide) ?_
                  refine lv_iload hx hb dX0_writeScript_130 (lv_at hl 2 rfl) ?_
                  refine lv_iload hx hb dX0_writeScript_132 (lv_at hl 1 rfl) ?_
                  refine lv_aload_n hx hb dX0_writeScript_134 rfl (lv_at hl 4 rfl) ?_
                  refine va_getN (D := (dC, dI)) (ci := 2) (v := .ref pa) (C := RX2) (T := TX2) (N := 2) hx hb hz hinX2 hown hK hP _ (z_right hao) rfl 0 (by decide) (hN.use _ zn_52) (fun _ h9 => h9) rfl dX0_writeScript_135 ?_
                  refine lv_iload hx hb dX0_writeScript_138 (lv_at hl 2 rfl) ?_
                  refine z_iald (v := f i) hx hb hK hP _ 0 (z_right haf) rfl (k := i) (by omega) (by omega) rfl dX0_writeScript_140 ?_
                  refine z_cvQ (wr := ([(hc, .inr (0, [.ref qr, .ref qe])), (qr, .inl (cI, 121, .inl rc)), (qe, .inl (cJ, 240, .inr (.inl eb)))] : va_W)) (cx := ([(h, .inr (3, [.ref qk, .ref qf, .ref qt, .ref qv, .int (nI k)])), (qk, .inl (cI, 240, .inl K1)), (qf, .inl (cI, 240, .inl F1)), (qt, .inl (cI, 240, .inl G1)), (qv, .inl (cI, 240, .inl V1))] : va_W)) hP hD hS hA [3, 4, 5, 6, 7] [0, 1, 2] rfl rfl (by decide) (by decide) (va_runV (As := [.int (nI 1), .int (nI i), .int (nI j), .int (f i)]) (rest := []) ⟨hx, hb, hml, hown, hz⟩ (c_Script_append l dC dI cI cJ cR h qk qf qt qv K1 F1 G1 V1 k (nI 1) (nI i) (nI j) (f i) (by omega) H.size) (cwV 4 hz (zgV zw_321 zw_322 zw_323 zw_25 zw_324) rfl rfl rfl (by decide +kernel) ⟨Nat.le_of_ble_eq_true rfl, Nat.le_of_ble_eq_true rfl⟩) ⟨zP_blind, z_recv hK hP (ci := 3) rfl rfl (q0 := 3) rfl, z_preQ hK hN hP hD [3, 4, 5, 6, 7] rfl (by decide)⟩ rfl rfl hl.1 rfl (lv_room (Nat.le_of_ble_eq_true rfl)) dX0_writeScript_141 ⟨Nat.le_of_ble_eq_true rfl, Nat.le_of_ble_eq_true rfl⟩) (fun w1 H locs hw hP hD hS => ?_)
                  subst hw
                  have hP : va_P (dC, dI) vwCl (([(hc, .inr (0, [.ref qr, .ref qe])), (qr, .inl (cI, 121, .inl rc)), (qe, .inl (cJ, 240, .inr (.inl eb))), (h, .inr (3, [.ref qk, .ref qf, .ref qt, .ref qv, .int (nI (k + 1))])), (qk, .inl (cI, 240, .inl (upd K1 k (nI 1)))), (qf, .inl (cI, 240, .inl (upd F1 k (nI i)))), (qt, .inl (cI, 240, .inl (upd G1 k (nI j)))), (qv, .inl (cI, 240, .inl (upd V1 k (f i))))] : va_W) ++ Rw) H := hP
                  have hD : va_D A (([(hc, .inr (0, [.ref qr, .ref qe])), (qr, .inl (cI, 121, .inl rc)), (qe, .inl (cJ, 240, .inr (.inl eb))), (h, .inr (3, [.ref qk, .ref qf, .ref qt, .ref qv, .int (nI (k + 1))])), (qk, .inl (cI, 240, .inl (upd K1 k (nI 1)))), (qf, .inl (cI, 240, .inl (upd F1 k (nI i)))), (qt, .inl (cI, 240, .inl (upd G1 k (nI j)))), (qv, .inl (cI, 240, .inl (upd V1 k (f i))))] : va_W) ++ Rw) := hD
                  refine lv_iinc (v := nI (i + 1)) (lv' := [(4, .int (nI (i + 1))), (6, .int (nI k)), (5, .int (nI j)), (0, .ref hc), (1, .ref ra), (2, .ref rb), (3, .ref h)]) hx hb dX0_writeScript_144 hl (k := 2) rfl (show nI i + 1 = nI (i + 1) from nI_1 _) (by decide) rfl (fun ls hl => ?_)
                  refine lv_goto (tgt := 169) hx hb dX0_writeScript_147 (by decide) ?_
                  refine lv_iinc (v := nI (k + 1)) (lv' := [(6, .int (nI (k + 1))), (4, .int (nI (i + 1))), (5, .int (nI j)), (0, .ref hc), (1, .ref ra), (2, .ref rb), (3, .ref h)]) hx hb dX0_writeScript_169 hl (k := 1) rfl (show nI k + 1 = nI (k + 1) from nI_1 _) (by decide) rfl (fun ls hl => ?_)
                  refine lv_goto (tgt := 13) hx hb dX0_writeScript_172 (by decide) ?_
                  have hkd : kd f g na nb (ps f g na nb k).1 (ps f g na nb k).2 = 1 := by rw [hps]; exact kd_1 (by omega) (fun z => absurd z.1 (by omega)) (Or.inl (by omega))
                  exact ih (k + 1) (i + 1) j _ _ _ _ _ _ ls (by omega) (by rw [ps_s, hkd, hps]; rfl) (by omega) (by omega) (by omega) (lt_s hnd (by rw [hps]; show i < na ∨ j < nb; omega)) (ag_s hag hkd hps (by rw [vl_0 hkd, hps])) hP hD hS (lv_sub hl [0, 2, 1, 3, 4, 5, 6] rfl)
                · have bb8 : ¬ (nb ≤ j) := fun h => bb8 ((nI_leI (by omega) (by omega)).mpr h)
                  omega
            · have bb6 : ¬ (nb ≤ j) := fun h => bb6 ((nI_leI (by omega) (by omega)).mpr h)
              refine lv_aload_n hx hb dX0_writeScript_57 rfl (lv_at hl 4 rfl) ?_
              refine va_getN (D := (dC, dI)) (ci := 2) (v := .ref pa) (C := RX2) (T := TX2) (N := 2) hx hb hz hinX2 hown hK hP _ (z_right hao) rfl 0 (by decide) (hN.use _ zn_52) (fun _ h9 => h9) rfl dX0_writeScript_58 ?_
              refine lv_iload hx hb dX0_writeScript_61 (lv_at hl 2 rfl) ?_
              refine z_iald (v := f i) hx hb hK hP _ 0 (z_right haf) rfl (k := i) (by omega) (by omega) rfl dX0_writeScript_63 ?_
              refine lv_aload_n hx hb dX0_writeScript_64 rfl (lv_at hl 5 rfl) ?_
              refine va_getN (D := (dC, dI)) (ci := 2) (v := .ref pb) (C := RX2) (T := TX2) (N := 2) hx hb hz hinX2 hown hK hP _ (z_right hbo) rfl 0 (by decide) (hN.use _ zn_52) (fun _ h9 => h9) rfl dX0_writeScript_65 ?_
              refine lv_iload hx hb dX0_writeScript_68 (lv_at hl 1 rfl) ?_
              refine z_iald (v := g j) hx hb hK hP _ 0 (z_right hbf) rfl (k := j) (by omega) (by omega) rfl dX0_writeScript_70 ?_
              refine lv_icmp_ne (tgt := 99) hx hb dX0_writeScript_71 (by decide) (fun c9 => ?_) (fun c9 => ?_)
              · refine lv_iload hx hb dX0_writeScript_99 (lv_at hl 2 rfl) ?_
                refine lv_aload_n hx hb dX0_writeScript_101 rfl (lv_at hl 4 rfl) ?_
                refine va_getN (D := (dC, dI)) (ci := 2) (v := .int (nI na)) (C := RX2) (T := TX2) (N := 2) hx hb hz hinX2 hown hK hP _ (z_right hao) rfl 1 (by decide) (hN.use _ zn_58) (fun _ h9 => h9) rfl dX0_writeScript_102 ?_
                refine lv_icmp_ge (tgt := 150) hx hb dX0_writeScript_105 (by decide) (fun bb9 => ?_) (fun bb9 => ?_)
                · have bb9 : na ≤ i := (nI_leI (by omega) (by omega)).mp bb9
                  omega
                · have bb9 : ¬ (na ≤ i) := fun h => bb9 ((nI_leI (by omega) (by omega)).mpr h)
                  refine lv_iload hx hb dX0_writeScript_108 (lv_at hl 1 rfl) ?_
                  refine lv_aload_n hx hb dX0_writeScript_110 rfl (lv_at hl 5 rfl) ?_
                  refine va_getN (D := (dC, dI)) (ci := 2) (v := .int (nI nb)) (C := RX2) (T := TX2) (N := 2) hx hb hz hinX2 hown hK hP _ (z_right hbo) rfl 1 (by decide) (hN.use _ zn_58) (fun _ h9 => h9) rfl dX0_writeScript_111 ?_
                  refine lv_icmp_ge (tgt := 128) hx hb dX0_writeScript_114 (by decide) (fun bb10 => ?_) (fun bb10 => ?_)
                  · have bb10 : nb ≤ j := (nI_leI (by omega) (by omega)).mp bb10
                    omega
                  · have bb10 : ¬ (nb ≤ j) := fun h => bb10 ((nI_leI (by omega) (by omega)).mpr h)
                    refine lv_aload_n hx hb dX0_writeScript_117 rfl (lv_at hl 3 rfl) ?_
                    refine lv_iload hx hb dX0_writeScript_118 (lv_at hl 2 rfl) ?_
                    refine lv_iload hx hb dX0_writeScript_120 (lv_at hl 1 rfl) ?_
                    refine z_ciQ (wr := ([(h, .inr (3, [.ref qk, .ref qf, .ref qt, .ref qv, .int (nI k)])), (qk, .inl (cI, 240, .inl K1)), (qf, .inl (cI, 240, .inl F1)), (qt, .inl (cI, 240, .inl G1)), (qv, .inl (cI, 240, .inl V1))] : va_W)) (cx := ([(hc, .inr (0, [.ref qr, .ref qe])), (qr, .inl (cI, 121, .inl rc)), (qe, .inl (cJ, 240, .inr (.inl eb)))] : va_W)) hP hD hS hA [0, 1, 2] [3, 4, 5, 6, 7] rfl rfl (by decide) (by decide) (va_runV (As := [.int (nI i), .int (nI j)]) (rest := []) ⟨hx, hb, hml, hown, hz⟩ (c_Cmp_marked l dC dI cI cJ cR hc qr qe rc eb i j (by omega) (by omega) H.size) (cwV 2 hz (zgV zw_325 zw_327 zw_7 zw_24 zw_328) rfl rfl rfl (by decide +kernel) ⟨Nat.le_of_ble_eq_true rfl, Nat.le_of_ble_eq_true rfl⟩) ⟨zP_blind, z_recv hK hP (ci := 0) rfl rfl (q0 := 0) rfl, z_preQ hK hN hP hD [0, 1, 2] rfl (by decide)⟩ rfl rfl hl.1 rfl (lv_room (Nat.le_of_ble_eq_true rfl)) dX0_writeScript_122 ⟨Nat.le_of_ble_eq_true rfl, Nat.le_of_ble_eq_true rfl⟩) (fun r w1 H locs hw hP hD hS => ?_)
                    obtain ⟨hr, hw⟩ := hw
                    rw [hbits i j (Nat.zero_le i) (by omega) (by omega)] at hr
                    subst hw
                    have hP : va_P (dC, dI) vwCl (([(h, .inr (3, [.ref qk, .ref qf, .ref qt, .ref qv, .int (nI k)])), (qk, .inl (cI, 240, .inl K1)), (qf, .inl (cI, 240, .inl F1)), (qt, .inl (cI, 240, .inl G1)), (qv, .inl (cI, 240, .inl V1)), (hc, .inr (0, [.ref qr, .ref qe])), (qr, .inl (cI, 121, .inl rc)), (qe, .inl (cJ, 240, .inr (.inl eb)))] : va_W) ++ Rw) H := hP
                    have hD : va_D A (([(h, .inr (3, [.ref qk, .ref qf, .ref qt, .ref qv, .int (nI k)])), (qk, .inl (cI, 240, .inl K1)), (qf, .inl (cI, 240, .inl F1)), (qt, .inl (cI, 240, .inl G1)), (qv, .inl (cI, 240, .inl V1)), (hc, .inr (0, [.ref qr, .ref qe])), (qr, .inl (cI, 121, .inl rc)), (qe, .inl (cJ, 240, .inr (.inl eb)))] : va_W) ++ Rw) := hD
                    have hP := z_permP (cx := ([(hc, .inr (0, [.ref qr, .ref qe])), (qr, .inl (cI, 121, .inl rc)), (qe, .inl (cJ, 240, .inr (.inl eb))), (h, .inr (3, [.ref qk, .ref qf, .ref qt, .ref qv, .int (nI k)])), (qk, .inl (cI, 240, .inl K1)), (qf, .inl (cI, 240, .inl F1)), (qt, .inl (cI, 240, .inl G1)), (qv, .inl (cI, 240, .inl V1))] : va_W)) hP [5, 6, 7, 0, 1, 2, 3, 4] rfl
                    have hD := z_permD (cx := ([(hc, .inr (0, [.ref qr, .ref qe])), (qr, .inl (cI, 121, .inl rc)), (qe, .inl (cJ, 240, .inr (.inl eb))), (h, .inr (3, [.ref qk, .ref qf, .ref qt, .ref qv, .int (nI k)])), (qk, .inl (cI, 240, .inl K1)), (qf, .inl (cI, 240, .inl F1)), (qt, .inl (cI, 240, .inl G1)), (qv, .inl (cI, 240, .inl V1))] : va_W)) hD [5, 6, 7, 0, 1, 2, 3, 4] rfl (by decide)
                    refine lv_if_eq (tgt := 150) hx hb dX0_writeScript_125 (by decide) (fun c8 => ?_) (fun c8 => ?_)
                    · have hm : ¬ (dc f g na nb (i + 1) j ≤ dc f g na nb i (j + 1)) := fun z => by rw [hr, if_pos (decide_eq_true z)] at c8; exact absurd c8 (by decide)
                      refine lv_aload_n hx hb dX0_writeScript_150 rfl (lv_at hl 6 rfl) ?_
                      refine lv_iconst (v := nI 2) hx hb dX0_writeScript_151 (by decide) ?_
                      refine lv_iload hx hb dX0_writeScript_152 (lv_at hl 2 rfl) ?_
                      refine lv_iload hx hb dX0_writeScript_154 (lv_at hl 1 rfl) ?_
                      refine lv_aload_n hx hb dX0_writeScript_156 rfl (lv_at hl 5 rfl) ?_
                      refine va_getN (D := (dC, dI)) (ci := 2) (v := .ref pb) (C := RX2) (T := TX2) (N := 2) hx hb hz hinX2 hown hK hP _ (z_right hbo) rfl 0 (by decide) (hN.use _ zn_52) (fun _ h9 => h9) rfl dX0_writeScript_157 ?_
                      refine lv_iload hx hb dX0_writeScript_160 (lv_at hl 1 rfl) ?_
                      refine z_iald (v := g j) hx hb hK hP _ 0 (z_right hbf) rfl (k := j) (by omega) (by omega) rfl dX0_writeScript_162 ?_
                      refine z_cvQ (wr := ([(hc, .inr (0, [.ref qr, .ref qe])), (qr, .inl (cI, 121, .inl rc)), (qe, .inl (cJ, 240, .inr (.inl eb)))] : va_W)) (cx := ([(h, .inr (3, [.ref qk, .ref qf, .ref qt, .ref qv, .int (nI k)])), (qk, .inl (cI, 240, .inl K1)), (qf, .inl (cI, 240, .inl F1)), (qt, .inl (cI, 240, .inl G1)), (qv, .inl (cI, 240, .inl V1))] : va_W)) hP hD hS hA [3, 4, 5, 6, 7] [0, 1, 2] rfl rfl (by decide) (by decide) (va_runV (As := [.int (nI 2), .int (nI i), .int (nI j), .int (g j)]) (rest := []) ⟨hx, hb, hml, hown, hz⟩ (c_Script_append l dC dI cI cJ cR h qk qf qt qv K1 F1 G1 V1 k (nI 2) (nI i) (nI j) (g j) (by omega) H.size) (cwV 4 hz (zgV zw_321 zw_322 zw_323 zw_25 zw_324) rfl rfl rfl (by decide +kernel) ⟨Nat.le_of_ble_eq_true rfl, Nat.le_of_ble_eq_true rfl⟩) ⟨zP_blind, z_recv hK hP (ci := 3) rfl rfl (q0 := 3) rfl, z_preQ hK hN hP hD [3, 4, 5, 6, 7] rfl (by decide)⟩ rfl rfl hl.1 rfl (lv_room (Nat.le_of_ble_eq_true rfl)) dX0_writeScript_163 ⟨Nat.le_of_ble_eq_true rfl, Nat.le_of_ble_eq_true rfl⟩) (fun w1 H locs hw hP hD hS => ?_)
                      subst hw
                      have hP : va_P (dC, dI) vwCl (([(hc, .inr (0, [.ref qr, .ref qe])), (qr, .inl (cI, 121, .inl rc)), (qe, .inl (cJ, 240, .inr (.inl eb))), (h, .inr (3, [.ref qk, .ref qf, .ref qt, .ref qv, .int (nI (k + 1))])), (qk, .inl (cI, 240, .inl (upd K1 k (nI 2)))), (qf, .inl (cI, 240, .inl (upd F1 k (nI i)))), (qt, .inl (cI, 240, .inl (upd G1 k (nI j)))), (qv, .inl (cI, 240, .inl (upd V1 k (g j))))] : va_W) ++ Rw) H := hP
                      have hD : va_D A (([(hc, .inr (0, [.ref qr, .ref qe])), (qr, .inl (cI, 121, .inl rc)), (qe, .inl (cJ, 240, .inr (.inl eb))), (h, .inr (3, [.ref qk, .ref qf, .ref qt, .ref qv, .int (nI (k + 1))])), (qk, .inl (cI, 240, .inl (upd K1 k (nI 2)))), (qf, .inl (cI, 240, .inl (upd F1 k (nI i)))), (qt, .inl (cI, 240, .inl (upd G1 k (nI j)))), (qv, .inl (cI, 240, .inl (upd V1 k (g j))))] : va_W) ++ Rw) := hD
                      refine lv_iinc (v := nI (j + 1)) (lv' := [(5, .int (nI (j + 1))), (6, .int (nI k)), (4, .int (nI i)), (0, .ref hc), (1, .ref ra), (2, .ref rb), (3, .ref h)]) hx hb dX0_writeScript_166 hl (k := 1) rfl (show nI j + 1 = nI (j + 1) from nI_1 _) (by decide) rfl (fun ls hl => ?_)
                      refine lv_iinc (v := nI (k + 1)) (lv' := [(6, .int (nI (k + 1))), (5, .int (nI (j + 1))), (4, .int (nI i)), (0, .ref hc), (1, .ref ra), (2, .ref rb), (3, .ref h)]) hx hb dX0_writeScript_169 hl (k := 1) rfl (show nI k + 1 = nI (k + 1) from nI_1 _) (by decide) rfl (fun ls hl => ?_)
                      refine lv_goto (tgt := 13) hx hb dX0_writeScript_172 (by decide) ?_
                      have hkd : kd f g na nb (ps f g na nb k).1 (ps f g na nb k).2 = 2 := by rw [hps]; exact kd_2b (by omega) (fun z => c9 z.2) hm
                      exact ih (k + 1) i (j + 1) _ _ _ _ _ _ ls (by omega) (by rw [ps_s, hkd, hps]; rfl) (by omega) (by omega) (by omega) (lt_s hnd (by rw [hps]; show i < na ∨ j < nb; omega)) (ag_s hag hkd hps (by rw [vl_2 hkd, hps])) hP hD hS (lv_sub hl [0, 1, 2, 3, 4, 5, 6] rfl)
                    · have hm : dc f g na nb (i + 1) j ≤ dc f g na nb i (j + 1) := by by_cases z : dc f g na nb (i + 1) j ≤ dc f g na nb i (j + 1); exact z; exact absurd (by rw [hr, if_neg (by rw [decide_eq_false z]; decide)]) c8
                      refine lv_aload_n hx hb dX0_writeScript_128 rfl (lv_at hl 6 rfl) ?_
                      refine lv_iconst (v := nI 1) hx hb dX0_writeScript_129 (by decide) ?_
                      refine lv_iload hx hb dX0_writeScript_130 (lv_at hl 2 rfl) ?_
                      refine lv_iload hx hb dX0_writeScript_132 (lv_at hl 1 rfl) ?_
                      refine lv_aload_n hx hb dX0_writeScript_134 rfl (lv_at hl 4 rfl) ?_
                      refine va_getN (D := (dC, dI)) (ci := 2) (v := .ref pa) (C := RX2) (T := TX2) (N := 2) hx hb hz hinX2 hown hK hP _ (z_right hao) rfl 0 (by decide) (hN.use _ zn_52) (fun _ h9 => h9) rfl dX0_writeScript_135 ?_
                      refine lv_iload hx hb dX0_writeScript_138 (lv_at hl 2 rfl) ?_
                      refine z_iald (v := f i) hx hb hK hP _ 0 (z_right haf) rfl (k := i) (by omega) (by omega) rfl dX0_writeScript_140 ?_
                      refine z_cvQ (wr := ([(hc, .inr (0, [.ref qr, .ref qe])), (qr, .inl (cI, 121, .inl rc)), (qe, .inl (cJ, 240, .inr (.inl eb)))] : va_W)) (cx := ([(h, .inr (3, [.ref qk, .ref qf, .ref qt, .ref qv, .int (nI k)])), (qk, .inl (cI, 240, .inl K1)), (qf, .inl (cI, 240, .inl F1)), (qt, .inl (cI, 240, .inl G1)), (qv, .inl (cI, 240, .inl V1))] : va_W)) hP hD hS hA [3, 4, 5, 6, 7] [0, 1, 2] rfl rfl (by decide) (by decide) (va_runV (As := [.int (nI 1), .int (nI i), .int (nI j), .int (f i)]) (rest := []) ⟨hx, hb, hml, hown, hz⟩ (c_Script_append l dC dI cI cJ cR h qk qf qt qv K1 F1 G1 V1 k (nI 1) (nI i) (nI j) (f i) (by omega) H.size) (cwV 4 hz (zgV zw_321 zw_322 zw_323 zw_25 zw_324) rfl rfl rfl (by decide +kernel) ⟨Nat.le_of_ble_eq_true rfl, Nat.le_of_ble_eq_true rfl⟩) ⟨zP_blind, z_recv hK hP (ci := 3) rfl rfl (q0 := 3) rfl, z_preQ hK hN hP hD [3, 4, 5, 6, 7] rfl (by decide)⟩ rfl rfl hl.1 rfl (lv_room (Nat.le_of_ble_eq_true rfl)) dX0_writeScript_141 ⟨Nat.le_of_ble_eq_true rfl, Nat.le_of_ble_eq_true rfl⟩) (fun w1 H locs hw hP hD hS => ?_)
                      subst hw
                      have hP : va_P (dC, dI) vwCl (([(hc, .inr (0, [.ref qr, .ref qe])), (qr, .inl (cI, 121, .inl rc)), (qe, .inl (cJ, 240, .inr (.inl eb))), (h, .inr (3, [.ref qk, .ref qf, .ref qt, .ref qv, .int (nI (k + 1))])), (qk, .inl (cI, 240, .inl (upd K1 k (nI 1)))), (qf, .inl (cI, 240, .inl (upd F1 k (nI i)))), (qt, .inl (cI, 240, .inl (upd G1 k (nI j)))), (qv, .inl (cI, 240, .inl (upd V1 k (f i))))] : va_W) ++ Rw) H := hP
                      have hD : va_D A (([(hc, .inr (0, [.ref qr, .ref qe])), (qr, .inl (cI, 121, .inl rc)), (qe, .inl (cJ, 240, .inr (.inl eb))), (h, .inr (3, [.ref qk, .ref qf, .ref qt, .ref qv, .int (nI (k + 1))])), (qk, .inl (cI, 240, .inl (upd K1 k (nI 1)))), (qf, .inl (cI, 240, .inl (upd F1 k (nI i)))), (qt, .inl (cI, 240, .inl (upd G1 k (nI j)))), (qv, .inl (cI, 240, .inl (upd V1 k (f i))))] : va_W) ++ Rw) := hD
                      refine lv_iinc (v := nI (i + 1)) (lv' := [(4, .int (nI (i + 1))), (6, .int (nI k)), (5, .int (nI j)), (0, .ref hc), (1, .ref ra), (2, .ref rb), (3, .ref h)]) hx hb dX0_writeScript_144 hl (k := 2) rfl (show nI i + 1 = nI (i + 1) from nI_1 _) (by decide) rfl (fun ls hl => ?_)
                      refine lv_goto (tgt := 169) hx hb dX0_writeScript_147 (by decide) ?_
                      refine lv_iinc (v := nI (k + 1)) (lv' := [(6, .int (nI (k + 1))), (4, .int (nI (i + 1))), (5, .int (nI j)), (0, .ref hc), (1, .ref ra), (2, .ref rb), (3, .ref h)]) hx hb dX0_writeScript_169 hl (k := 1) rfl (show nI k + 1 = nI (k + 1) from nI_1 _) (by decide) rfl (fun ls hl => ?_)
                      refine lv_goto (tgt := 13) hx hb dX0_writeScript_172 (by decide) ?_
                      have hkd : kd f g na nb (ps f g na nb k).1 (ps f g na nb k).2 = 1 := by rw [hps]; exact kd_1 (by omega) (fun z => c9 z.2) (Or.inr hm)
                      exact ih (k + 1) (i + 1) j _ _ _ _ _ _ ls (by omega) (by rw [ps_s, hkd, hps]; rfl) (by omega) (by omega) (by omega) (lt_s hnd (by rw [hps]; show i < na ∨ j < nb; omega)) (ag_s hag hkd hps (by rw [vl_0 hkd, hps])) hP hD hS (lv_sub hl [0, 2, 1, 3, 4, 5, 6] rfl)
              · refine lv_aload_n hx hb dX0_writeScript_74 rfl (lv_at hl 6 rfl) ?_
                refine lv_iconst (v := nI 0) hx hb dX0_writeScript_75 (by decide) ?_
                refine lv_iload hx hb dX0_writeScript_76 (lv_at hl 2 rfl) ?_
                refine lv_iload hx hb dX0_writeScript_78 (lv_at hl 1 rfl) ?_
                refine lv_aload_n hx hb dX0_writeScript_80 rfl (lv_at hl 4 rfl) ?_
                refine va_getN (D := (dC, dI)) (ci := 2) (v := .ref pa) (C := RX2) (T := TX2) (N := 2) hx hb hz hinX2 hown hK hP _ (z_right hao) rfl 0 (by decide) (hN.use _ zn_52) (fun _ h9 => h9) rfl dX0_writeScript_81 ?_
                refine lv_iload hx hb dX0_writeScript_84 (lv_at hl 2 rfl) ?_
                refine z_iald (v := f i) hx hb hK hP _ 0 (z_right haf) rfl (k := i) (by omega) (by omega) rfl dX0_writeScript_86 ?_
                refine z_cvQ (wr := ([(hc, .inr (0, [.ref qr, .ref qe])), (qr, .inl (cI, 121, .inl rc)), (qe, .inl (cJ, 240, .inr (.inl eb)))] : va_W)) (cx := ([(h, .inr (3, [.ref qk, .ref qf, .ref qt, .ref qv, .int (nI k)])), (qk, .inl (cI, 240, .inl K1)), (qf, .inl (cI, 240, .inl F1)), (qt, .inl (cI, 240, .inl G1)), (qv, .inl (cI, 240, .inl V1))] : va_W)) hP hD hS hA [3, 4, 5, 6, 7] [0, 1, 2] rfl rfl (by decide) (by decide) (va_runV (As := [.int (nI 0), .int (nI i), .int (nI j), .int (f i)]) (rest := []) ⟨hx, hb, hml, hown, hz⟩ (c_Script_append l dC dI cI cJ cR h qk qf qt qv K1 F1 G1 V1 k (nI 0) (nI i) (nI j) (f i) (by omega) H.size) (cwV 4 hz (zgV zw_321 zw_322 zw_323 zw_25 zw_324) rfl rfl rfl (by decide +kernel) ⟨Nat.le_of_ble_eq_true rfl, Nat.le_of_ble_eq_true rfl⟩) ⟨zP_blind, z_recv hK hP (ci := 3) rfl rfl (q0 := 3) rfl, z_preQ hK hN hP hD [3, 4, 5, 6, 7] rfl (by decide)⟩ rfl rfl hl.1 rfl (lv_room (Nat.le_of_ble_eq_true rfl)) dX0_writeScript_87 ⟨Nat.le_of_ble_eq_true rfl, Nat.le_of_ble_eq_true rfl⟩) (fun w1 H locs hw hP hD hS => ?_)
                subst hw
                have hP : va_P (dC, dI) vwCl (([(hc, .inr (0, [.ref qr, .ref qe])), (qr, .inl (cI, 121, .inl rc)), (qe, .inl (cJ, 240, .inr (.inl eb))), (h, .inr (3, [.ref qk, .ref qf, .ref qt, .ref qv, .int (nI (k + 1))])), (qk, .inl (cI, 240, .inl (upd K1 k (nI 0)))), (qf, .inl (cI, 240, .inl (upd F1 k (nI i)))), (qt, .inl (cI, 240, .inl (upd G1 k (nI j)))), (qv, .inl (cI, 240, .inl (upd V1 k (f i))))] : va_W) ++ Rw) H := hP
                have hD : va_D A (([(hc, .inr (0, [.ref qr, .ref qe])), (qr, .inl (cI, 121, .inl rc)), (qe, .inl (cJ, 240, .inr (.inl eb))), (h, .inr (3, [.ref qk, .ref qf, .ref qt, .ref qv, .int (nI (k + 1))])), (qk, .inl (cI, 240, .inl (upd K1 k (nI 0)))), (qf, .inl (cI, 240, .inl (upd F1 k (nI i)))), (qt, .inl (cI, 240, .inl (upd G1 k (nI j)))), (qv, .inl (cI, 240, .inl (upd V1 k (f i))))] : va_W) ++ Rw) := hD
                refine lv_iinc (v := nI (i + 1)) (lv' := [(4, .int (nI (i + 1))), (6, .int (nI k)), (5, .int (nI j)), (0, .ref hc), (1, .ref ra), (2, .ref rb), (3, .ref h)]) hx hb dX0_writeScript_90 hl (k := 2) rfl (show nI i + 1 = nI (i + 1) from nI_1 _) (by decide) rfl (fun ls hl => ?_)
                refine lv_iinc (v := nI (j + 1)) (lv' := [(5, .int (nI (j + 1))), (4, .int (nI (i + 1))), (6, .int (nI k)), (0, .ref hc), (1, .ref ra), (2, .ref rb), (3, .ref h)]) hx hb dX0_writeScript_93 hl (k := 2) rfl (show nI j + 1 = nI (j + 1) from nI_1 _) (by decide) rfl (fun ls hl => ?_)
                refine lv_goto (tgt := 169) hx hb dX0_writeScript_96 (by decide) ?_
                refine lv_iinc (v := nI (k + 1)) (lv' := [(6, .int (nI (k + 1))), (5, .int (nI (j + 1))), (4, .int (nI (i + 1))), (0, .ref hc), (1, .ref ra), (2, .ref rb), (3, .ref h)]) hx hb dX0_writeScript_169 hl (k := 2) rfl (show nI k + 1 = nI (k + 1) from nI_1 _) (by decide) rfl (fun ls hl => ?_)
                refine lv_goto (tgt := 13) hx hb dX0_writeScript_172 (by decide) ?_
                have hkd : kd f g na nb (ps f g na nb k).1 (ps f g na nb k).2 = 0 := by rw [hps]; exact kd_0 (by omega) (by omega) c9
                exact ih (k + 1) (i + 1) (j + 1) _ _ _ _ _ _ ls (by omega) (by rw [ps_s, hkd, hps]; rfl) (by omega) (by omega) (by omega) (lt_s hnd (by rw [hps]; show i < na ∨ j < nb; omega)) (ag_s hag hkd hps (by rw [vl_0 hkd, hps])) hP hD hS (lv_sub hl [0, 1, 2, 3, 4, 5, 6] rfl)
        · have bb3 : ¬ (i < na) := fun h => bb3 ((nI_ltI (by omega) (by omega)).mpr h)
          refine lv_iload hx hb dX0_writeScript_30 (lv_at hl 1 rfl) ?_
          refine lv_aload_n hx hb dX0_writeScript_32 rfl (lv_at hl 5 rfl) ?_
          refine va_getN (D := (dC, dI)) (ci := 2) (v := .int (nI nb)) (C := RX2) (T := TX2) (N := 2) hx hb hz hinX2 hown hK hP _ (z_right hbo) rfl 1 (by decide) (hN.use _ zn_58) (fun _ h9 => h9) rfl dX0_writeScript_33 ?_
          refine lv_icmp_ge (tgt := 175) hx hb dX0_writeScript_36 (by decide) (fun bb11 => ?_) (fun bb11 => ?_)
          · have bb11 : nb ≤ j := (nI_leI (by omega) (by omega)).mp bb11
            exact hret H locs (([(hc, .inr (0, [.ref qr, .ref qe])), (qr, .inl (cI, 121, .inl rc)), (qe, .inl (cJ, 240, .inr (.inl eb))), (h, .inr (3, [.ref qk, .ref qf, .ref qt, .ref qv, .int (nI k)])), (qk, .inl (cI, 240, .inl K1)), (qf, .inl (cI, 240, .inl F1)), (qt, .inl (cI, 240, .inl G1)), (qv, .inl (cI, 240, .inl V1))] : va_W) ++ Rw) _ ls hP hD hS dX0_writeScript_175 ⟨k, K1, F1, G1, V1, by omega, by rw [hps, show i = na by omega, show j = nb by omega], hnd, hag, rfl⟩
          · have bb11 : ¬ (nb ≤ j) := fun h => bb11 ((nI_leI (by omega) (by omega)).mpr h)
            refine lv_iload hx hb dX0_writeScript_39 (lv_at hl 2 rfl) ?_
            refine lv_aload_n hx hb dX0_writeScript_41 rfl (lv_at hl 4 rfl) ?_
            refine va_getN (D := (dC, dI)) (ci := 2) (v := .int (nI na)) (C := RX2) (T := TX2) (N := 2) hx hb hz hinX2 hown hK hP _ (z_right hao) rfl 1 (by decide) (hN.use _ zn_58) (fun _ h9 => h9) rfl dX0_writeScript_42 ?_
            refine lv_icmp_ge (tgt := 99) hx hb dX0_writeScript_45 (by decide) (fun bb12 => ?_) (fun bb12 => ?_)
            · have bb12 : na ≤ i := (nI_leI (by omega) (by omega)).mp bb12
              refine lv_iload hx hb dX0_writeScript_99 (lv_at hl 2 rfl) ?_
              refine lv_aload_n hx hb dX0_writeScript_101 rfl (lv_at hl 4 rfl) ?_
              refine va_getN (D := (dC, dI)) (ci := 2) (v := .int (nI na)) (C := RX2) (T := TX2) (N := 2) hx hb hz hinX2 hown hK hP _ (z_right hao) rfl 1 (by decide) (hN.use _ zn_58) (fun _ h9 => h9) rfl dX0_writeScript_102 ?_
              refine lv_icmp_ge (tgt := 150) hx hb dX0_writeScript_105 (by decide) (fun bb13 => ?_) (fun bb13 => ?_)
              · have bb13 : na ≤ i := (nI_leI (by omega) (by omega)).mp bb13
                refine lv_aload_n hx hb dX0_writeScript_150 rfl (lv_at hl 6 rfl) ?_
                refine lv_iconst (v := nI 2) hx hb dX0_writeScript_151 (by decide) ?_
                refine lv_iload hx hb dX0_writeScript_152 (lv_at hl 2 rfl) ?_
                refine lv_iload hx hb dX0_writeScript_154 (lv_at hl 1 rfl) ?_
                refine lv_aload_n hx hb dX0_writeScript_156 rfl (lv_at hl 5 rfl) ?_
                refine va_getN (D := (dC, dI)) (ci := 2) (v := .ref pb) (C := RX2) (T := TX2) (N := 2) hx hb hz hinX2 hown hK hP _ (z_right hbo) rfl 0 (by decide) (hN.use _ zn_52) (fun _ h9 => h9) rfl dX0_writeScript_157 ?_
                refine lv_iload hx hb dX0_writeScript_160 (lv_at hl 1 rfl) ?_
                refine z_iald (v := g j) hx hb hK hP _ 0 (z_right hbf) rfl (k := j) (by omega) (by omega) rfl dX0_writeScript_162 ?_
                refine z_cvQ (wr := ([(hc, .inr (0, [.ref qr, .ref qe])), (qr, .inl (cI, 121, .inl rc)), (qe, .inl (cJ, 240, .inr (.inl eb)))] : va_W)) (cx := ([(h, .inr (3, [.ref qk, .ref qf, .ref qt, .ref qv, .int (nI k)])), (qk, .inl (cI, 240, .inl K1)), (qf, .inl (cI, 240, .inl F1)), (qt, .inl (cI, 240, .inl G1)), (qv, .inl (cI, 240, .inl V1))] : va_W)) hP hD hS hA [3, 4, 5, 6, 7] [0, 1, 2] rfl rfl (by decide) (by decide) (va_runV (As := [.int (nI 2), .int (nI i), .int (nI j), .int (g j)]) (rest := []) ⟨hx, hb, hml, hown, hz⟩ (c_Script_append l dC dI cI cJ cR h qk qf qt qv K1 F1 G1 V1 k (nI 2) (nI i) (nI j) (g j) (by omega) H.size) (cwV 4 hz (zgV zw_321 zw_322 zw_323 zw_25 zw_324) rfl rfl rfl (by decide +kernel) ⟨Nat.le_of_ble_eq_true rfl, Nat.le_of_ble_eq_true rfl⟩) ⟨zP_blind, z_recv hK hP (ci := 3) rfl rfl (q0 := 3) rfl, z_preQ hK hN hP hD [3, 4, 5, 6, 7] rfl (by decide)⟩ rfl rfl hl.1 rfl (lv_room (Nat.le_of_ble_eq_true rfl)) dX0_writeScript_163 ⟨Nat.le_of_ble_eq_true rfl, Nat.le_of_ble_eq_true rfl⟩) (fun w1 H locs hw hP hD hS => ?_)
                subst hw
                have hP : va_P (dC, dI) vwCl (([(hc, .inr (0, [.ref qr, .ref qe])), (qr, .inl (cI, 121, .inl rc)), (qe, .inl (cJ, 240, .inr (.inl eb))), (h, .inr (3, [.ref qk, .ref qf, .ref qt, .ref qv, .int (nI (k + 1))])), (qk, .inl (cI, 240, .inl (upd K1 k (nI 2)))), (qf, .inl (cI, 240, .inl (upd F1 k (nI i)))), (qt, .inl (cI, 240, .inl (upd G1 k (nI j)))), (qv, .inl (cI, 240, .inl (upd V1 k (g j))))] : va_W) ++ Rw) H := hP
                have hD : va_D A (([(hc, .inr (0, [.ref qr, .ref qe])), (qr, .inl (cI, 121, .inl rc)), (qe, .inl (cJ, 240, .inr (.inl eb))), (h, .inr (3, [.ref qk, .ref qf, .ref qt, .ref qv, .int (nI (k + 1))])), (qk, .inl (cI, 240, .inl (upd K1 k (nI 2)))), (qf, .inl (cI, 240, .inl (upd F1 k (nI i)))), (qt, .inl (cI, 240, .inl (upd G1 k (nI j)))), (qv, .inl (cI, 240, .inl (upd V1 k (g j))))] : va_W) ++ Rw) := hD
                refine lv_iinc (v := nI (j + 1)) (lv' := [(5, .int (nI (j + 1))), (6, .int (nI k)), (4, .int (nI i)), (0, .ref hc), (1, .ref ra), (2, .ref rb), (3, .ref h)]) hx hb dX0_writeScript_166 hl (k := 1) rfl (show nI j + 1 = nI (j + 1) from nI_1 _) (by decide) rfl (fun ls hl => ?_)
                refine lv_iinc (v := nI (k + 1)) (lv' := [(6, .int (nI (k + 1))), (5, .int (nI (j + 1))), (4, .int (nI i)), (0, .ref hc), (1, .ref ra), (2, .ref rb), (3, .ref h)]) hx hb dX0_writeScript_169 hl (k := 1) rfl (show nI k + 1 = nI (k + 1) from nI_1 _) (by decide) rfl (fun ls hl => ?_)
                refine lv_goto (tgt := 13) hx hb dX0_writeScript_172 (by decide) ?_
                have hkd : kd f g na nb (ps f g na nb k).1 (ps f g na nb k).2 = 2 := by rw [hps]; exact kd_2a (by omega)
                exact ih (k + 1) i (j + 1) _ _ _ _ _ _ ls (by omega) (by rw [ps_s, hkd, hps]; rfl) (by omega) (by omega) (by omega) (lt_s hnd (by rw [hps]; show i < na ∨ j < nb; omega)) (ag_s hag hkd hps (by rw [vl_2 hkd, hps])) hP hD hS (lv_sub hl [0, 1, 2, 3, 4, 5, 6] rfl)
              · have bb13 : ¬ (na ≤ i) := fun h => bb13 ((nI_leI (by omega) (by omega)).mpr h)
                omega
            · have bb12 : ¬ (na ≤ i) := fun h => bb12 ((nI_leI (by omega) (by omega)).mpr h)
              refine lv_iload hx hb dX0_writeScript_48 (lv_at hl 1 rfl) ?_
              refine lv_aload_n hx hb dX0_writeScript_50 rfl (lv_at hl 5 rfl) ?_
              refine va_getN (D := (dC, dI)) (ci := 2) (v := .int (nI nb)) (C := RX2) (T := TX2) (N := 2) hx hb hz hinX2 hown hK hP _ (z_right hbo) rfl 1 (by decide) (hN.use _ zn_58) (fun _ h9 => h9) rfl dX0_writeScript_51 ?_
              refine lv_icmp_ge (tgt := 99) hx hb dX0_writeScript_54 (by decide) (fun bb14 => ?_) (fun bb14 => ?_)
              · have bb14 : nb ≤ j := (nI_leI (by omega) (by omega)).mp bb14
                refine lv_iload hx hb dX0_writeScript_99 (lv_at hl 2 rfl) ?_
                refine lv_aload_n hx hb dX0_writeScript_101 rfl (lv_at hl 4 rfl) ?_
                refine va_getN (D := (dC, dI)) (ci := 2) (v := .int (nI na)) (C := RX2) (T := TX2) (N := 2) hx hb hz hinX2 hown hK hP _ (z_right hao) rfl 1 (by decide) (hN.use _ zn_58) (fun _ h9 => h9) rfl dX0_writeScript_102 ?_
                refine lv_icmp_ge (tgt := 150) hx hb dX0_writeScript_105 (by decide) (fun bb15 => ?_) (fun bb15 => ?_)
                · have bb15 : na ≤ i := (nI_leI (by omega) (by omega)).mp bb15
                  omega
                · have bb15 : ¬ (na ≤ i) := fun h => bb15 ((nI_leI (by omega) (by omega)).mpr h)
                  refine lv_iload hx hb dX0_writeScript_108 (lv_at hl 1 rfl) ?_
                  refine lv_aload_n hx hb dX0_writeScript_110 rfl (lv_at hl 5 rfl) ?_
                  refine va_getN (D := (dC, dI)) (ci := 2) (v := .int (nI nb)) (C := RX2) (T := TX2) (N := 2) hx hb hz hinX2 hown hK hP _ (z_right hbo) rfl 1 (by decide) (hN.use _ zn_58) (fun _ h9 => h9) rfl dX0_writeScript_111 ?_
                  refine lv_icmp_ge (tgt := 128) hx hb dX0_writeScript_114 (by decide) (fun bb16 => ?_) (fun bb16 => ?_)
                  · have bb16 : nb ≤ j := (nI_leI (by omega) (by omega)).mp bb16
                    refine lv_aload_n hx hb dX0_writeScript_128 rfl (lv_at hl 6 rfl) ?_
                    refine lv_iconst (v := nI 1) hx hb dX0_writeScript_129 (by decide) ?_
                    refine lv_iload hx hb dX0_writeScript_130 (lv_at hl 2 rfl) ?_
                    refine lv_iload hx hb dX0_writeScript_132 (lv_at hl 1 rfl) ?_
                    refine lv_aload_n hx hb dX0_writeScript_134 rfl (lv_at hl 4 rfl) ?_
                    refine va_getN (D := (dC, dI)) (ci := 2) (v := .ref pa) (C := RX2) (T := TX2) (N := 2) hx hb hz hinX2 hown hK hP _ (z_right hao) rfl 0 (by decide) (hN.use _ zn_52) (fun _ h9 => h9) rfl dX0_writeScript_135 ?_
                    refine lv_iload hx hb dX0_writeScript_138 (lv_at hl 2 rfl) ?_
                    refine z_iald (v := f i) hx hb hK hP _ 0 (z_right haf) rfl (k := i) (by omega) (by omega) rfl dX0_writeScript_140 ?_
                    refine z_cvQ (wr := ([(hc, .inr (0, [.ref qr, .ref qe])), (qr, .inl (cI, 121, .inl rc)), (qe, .inl (cJ, 240, .inr (.inl eb)))] : va_W)) (cx := ([(h, .inr (3, [.ref qk, .ref qf, .ref qt, .ref qv, .int (nI k)])), (qk, .inl (cI, 240, .inl K1)), (qf, .inl (cI, 240, .inl F1)), (qt, .inl (cI, 240, .inl G1)), (qv, .inl (cI, 240, .inl V1))] : va_W)) hP hD hS hA [3, 4, 5, 6, 7] [0, 1, 2] rfl rfl (by decide) (by decide) (va_runV (As := [.int (nI 1), .int (nI i), .int (nI j), .int (f i)]) (rest := []) ⟨hx, hb, hml, hown, hz⟩ (c_Script_append l dC dI cI cJ cR h qk qf qt qv K1 F1 G1 V1 k (nI 1) (nI i) (nI j) (f i) (by omega) H.size) (cwV 4 hz (zgV zw_321 zw_322 zw_323 zw_25 zw_324) rfl rfl rfl (by decide +kernel) ⟨Nat.le_of_ble_eq_true rfl, Nat.le_of_ble_eq_true rfl⟩) ⟨zP_blind, z_recv hK hP (ci := 3) rfl rfl (q0 := 3) rfl, z_preQ hK hN hP hD [3, 4, 5, 6, 7] rfl (by decide)⟩ rfl rfl hl.1 rfl (lv_room (Nat.le_of_ble_eq_true rfl)) dX0_writeScript_141 ⟨Nat.le_of_ble_eq_true rfl, Nat.le_of_ble_eq_true rfl⟩) (fun w1 H locs hw hP hD hS => ?_)
                    subst hw
                    have hP : va_P (dC, dI) vwCl (([(hc, .inr (0, [.ref qr, .ref qe])), (qr, .inl (cI, 121, .inl rc)), (qe, .inl (cJ, 240, .inr (.inl eb))), (h, .inr (3, [.ref qk, .ref qf, .ref qt, .ref qv, .int (nI (k + 1))])), (qk, .inl (cI, 240, .inl (upd K1 k (nI 1)))), (qf, .inl (cI, 240, .inl (upd F1 k (nI i)))), (qt, .inl (cI, 240, .inl (upd G1 k (nI j)))), (qv, .inl (cI, 240, .inl (upd V1 k (f i))))] : va_W) ++ Rw) H := hP
                    have hD : va_D A (([(hc, .inr (0, [.ref qr, .ref qe])), (qr, .inl (cI, 121, .inl rc)), (qe, .inl (cJ, 240, .inr (.inl eb))), (h, .inr (3, [.ref qk, .ref qf, .ref qt, .ref qv, .int (nI (k + 1))])), (qk, .inl (cI, 240, .inl (upd K1 k (nI 1)))), (qf, .inl (cI, 240, .inl (upd F1 k (nI i)))), (qt, .inl (cI, 240, .inl (upd G1 k (nI j)))), (qv, .inl (cI, 240, .inl (upd V1 k (f i))))] : va_W) ++ Rw) := hD
                    refine lv_iinc (v := nI (i + 1)) (lv' := [(4, .int (nI (i + 1))), (6, .int (nI k)), (5, .int (nI j)), (0, .ref hc), (1, .ref ra), (2, .ref rb), (3, .ref h)]) hx hb dX0_writeScript_144 hl (k := 2) rfl (show nI i + 1 = nI (i + 1) from nI_1 _) (by decide) rfl (fun ls hl => ?_)
                    refine lv_goto (tgt := 169) hx hb dX0_writeScript_147 (by decide) ?_
                    refine lv_iinc (v := nI (k + 1)) (lv' := [(6, .int (nI (k + 1))), (4, .int (nI (i + 1))), (5, .int (nI j)), (0, .ref hc), (1, .ref ra), (2, .ref rb), (3, .ref h)]) hx hb dX0_writeScript_169 hl (k := 1) rfl (show nI k + 1 = nI (k + 1) from nI_1 _) (by decide) rfl (fun ls hl => ?_)
                    refine lv_goto (tgt := 13) hx hb dX0_writeScript_172 (by decide) ?_
                    have hkd : kd f g na nb (ps f g na nb k).1 (ps f g na nb k).2 = 1 := by rw [hps]; exact kd_1 (by omega) (fun z => absurd z.1 (by omega)) (Or.inl (by omega))
                    exact ih (k + 1) (i + 1) j _ _ _ _ _ _ ls (by omega) (by rw [ps_s, hkd, hps]; rfl) (by omega) (by omega) (by omega) (lt_s hnd (by rw [hps]; show i < na ∨ j < nb; omega)) (ag_s hag hkd hps (by rw [vl_0 hkd, hps])) hP hD hS (lv_sub hl [0, 2, 1, 3, 4, 5, 6] rfl)
                  · have bb16 : ¬ (nb ≤ j) := fun h => bb16 ((nI_leI (by omega) (by omega)).mpr h)
                    omega
              · have bb14 : ¬ (nb ≤ j) := fun h => bb14 ((nI_leI (by omega) (by omega)).mpr h)
                refine lv_aload_n hx hb dX0_writeScript_57 rfl (lv_at hl 4 rfl) ?_
                refine va_getN (D := (dC, dI)) (ci := 2) (v := .ref pa) (C := RX2) (T := TX2) (N := 2) hx hb hz hinX2 hown hK hP _ (z_right hao) rfl 0 (by decide) (hN.use _ zn_52) (fun _ h9 => h9) rfl dX0_writeScript_58 ?_
                refine lv_iload hx hb dX0_writeScript_61 (lv_at hl 2 rfl) ?_
                refine z_iald (v := f i) hx hb hK hP _ 0 (z_right haf) rfl (k := i) (by omega) (by omega) rfl dX0_writeScript_63 ?_
                refine lv_aload_n hx hb dX0_writeScript_64 rfl (lv_at hl 5 rfl) ?_
                refine va_getN (D := (dC, dI)) (ci := 2) (v := .ref pb) (C := RX2) (T := TX2) (N := 2) hx hb hz hinX2 hown hK hP _ (z_right hbo) rfl 0 (by decide) (hN.use _ zn_52) (fun _ h9 => h9) rfl dX0_writeScript_65 ?_
                refine lv_iload hx hb dX0_writeScript_68 (lv_at hl 1 rfl) ?_
                refine z_iald (v := g j) hx hb hK hP _ 0 (z_right hbf) rfl (k := j) (by omega) (by omega) rfl dX0_writeScript_70 ?_
                refine lv_icmp_ne (tgt := 99) hx hb dX0_writeScript_71 (by decide) (fun c9 => ?_) (fun c9 => ?_)
                · refine lv_iload hx hb dX0_writeScript_99 (lv_at hl 2 rfl) ?_
                  refine lv_aload_n hx hb dX0_writeScript_101 rfl (lv_at hl 4 rfl) ?_
                  refine va_getN (D := (dC, dI)) (ci := 2) (v := .int (nI na)) (C := RX2) (T := TX2) (N := 2) hx hb hz hinX2 hown hK hP _ (z_right hao) rfl 1 (by decide) (hN.use _ zn_58) (fun _ h9 => h9) rfl dX0_writeScript_102 ?_
                  refine lv_icmp_ge (tgt := 150) hx hb dX0_writeScript_105 (by decide) (fun bb17 => ?_) (fun bb17 => ?_)
                  · have bb17 : na ≤ i := (nI_leI (by omega) (by omega)).mp bb17
                    omega
                  · have bb17 : ¬ (na ≤ i) := fun h => bb17 ((nI_leI (by omega) (by omega)).mpr h)
                    refine lv_iload hx hb dX0_writeScript_108 (lv_at hl 1 rfl) ?_
                    refine lv_aload_n hx hb dX0_writeScript_110 rfl (lv_at hl 5 rfl) ?_
                    refine va_getN (D := (dC, dI)) (ci := 2) (v := .int (nI nb)) (C := RX2) (T := TX2) (N := 2) hx hb hz hinX2 hown hK hP _ (z_right hbo) rfl 1 (by decide) (hN.use _ zn_58) (fun _ h9 => h9) rfl dX0_writeScript_111 ?_
                    refine lv_icmp_ge (tgt := 128) hx hb dX0_writeScript_114 (by decide) (fun bb18 => ?_) (fun bb18 => ?_)
                    · have bb18 : nb ≤ j := (nI_leI (by omega) (by omega)).mp bb18
                      omega
                    · have bb18 : ¬ (nb ≤ j) := fun h => bb18 ((nI_leI (by omega) (by omega)).mpr h)
                      refine lv_aload_n hx hb dX0_writeScript_117 rfl (lv_at hl 3 rfl) ?_
                      refine lv_iload hx hb dX0_writeScript_118 (lv_at hl 2 rfl) ?_
                      refine lv_iload hx hb dX0_writeScript_120 (lv_at hl 1 rfl) ?_
                      refine z_ciQ (wr := ([(h, .inr (3, [.ref qk, .ref qf, .ref qt, .ref qv, .int (nI k)])), (qk, .inl (cI, 240, .inl K1)), (qf, .inl (cI, 240, .inl F1)), (qt, .inl (cI, 240, .inl G1)), (qv, .inl (cI, 240, .inl V1))] : va_W)) (cx := ([(hc, .inr (0, [.ref qr, .ref qe])), (qr, .inl (cI, 121, .inl rc)), (qe, .inl (cJ, 240, .inr (.inl eb)))] : va_W)) hP hD hS hA [0, 1, 2] [3, 4, 5, 6, 7] rfl rfl (by decide) (by decide) (va_runV (As := [.int (nI i), .int (nI j)]) (rest := []) ⟨hx, hb, hml, hown, hz⟩ (c_Cmp_marked l dC dI cI cJ cR hc qr qe rc eb i j (by omega) (by omega) H.size) (cwV 2 hz (zgV zw_325 zw_327 zw_7 zw_24 zw_328) rfl rfl rfl (by decide +kernel) ⟨Nat.le_of_ble_eq_true rfl, Nat.le_of_ble_eq_true rfl⟩) ⟨zP_blind, z_recv hK hP (ci := 0) rfl rfl (q0 := 0) rfl, z_preQ hK hN hP hD [0, 1, 2] rfl (by decide)⟩ rfl rfl hl.1 rfl (lv_room (Nat.le_of_ble_eq_true rfl)) dX0_writeScript_122 ⟨Nat.le_of_ble_eq_true rfl, Nat.le_of_ble_eq_true rfl⟩) (fun r w1 H locs hw hP hD hS => ?_)
                      obtain ⟨hr, hw⟩ := hw
                      rw [hbits i j (Nat.zero_le i) (by omega) (by omega)] at hr
                      subst hw
                      have hP : va_P (dC, dI) vwCl (([(h, .inr (3, [.ref qk, .ref qf, .ref qt, .ref qv, .int (nI k)])), (qk, .inl (cI, 240, .inl K1)), (qf, .inl (cI, 240, .inl F1)), (qt, .inl (cI, 240, .inl G1)), (qv, .inl (cI, 240, .inl V1)), (hc, .inr (0, [.ref qr, .ref qe])), (qr, .inl (cI, 121, .inl rc)), (qe, .inl (cJ, 240, .inr (.inl eb)))] : va_W) ++ Rw) H := hP
                      have hD : va_D A (([(h, .inr (3, [.ref qk, .ref qf, .ref qt, .ref qv, .int (nI k)])), (qk, .inl (cI, 240, .inl K1)), (qf, .inl (cI, 240, .inl F1)), (qt, .inl (cI, 240, .inl G1)), (qv, .inl (cI, 240, .inl V1)), (hc, .inr (0, [.ref qr, .ref qe])), (qr, .inl (cI, 121, .inl rc)), (qe, .inl (cJ, 240, .inr (.inl eb)))] : va_W) ++ Rw) := hD
                      have hP := z_permP (cx := ([(hc, .inr (0, [.ref qr, .ref qe])), (qr, .inl (cI, 121, .inl rc)), (qe, .inl (cJ, 240, .inr (.inl eb))), (h, .inr (3, [.ref qk, .ref qf, .ref qt, .ref qv, .int (nI k)])), (qk, .inl (cI, 240, .inl K1)), (qf, .inl (cI, 240, .inl F1)), (qt, .inl (cI, 240, .inl G1)), (qv, .inl (cI, 240, .inl V1))] : va_W)) hP [5, 6, 7, 0, 1, 2, 3, 4] rfl
                      have hD := z_permD (cx := ([(hc, .inr (0, [.ref qr, .ref qe])), (qr, .inl (cI, 121, .inl rc)), (qe, .inl (cJ, 240, .inr (.inl eb))), (h, .inr (3, [.ref qk, .ref qf, .ref qt, .ref qv, .int (nI k)])), (qk, .inl (cI, 240, .inl K1)), (qf, .inl (cI, 240, .inl F1)), (qt, .inl (cI, 240, .inl G1)), (qv, .inl (cI, 240, .inl V1))] : va_W)) hD [5, 6, 7, 0, 1, 2, 3, 4] rfl (by decide)
                      refine lv_if_eq (tgt := 150) hx hb dX0_writeScript_125 (by decide) (fun c8 => ?_) (fun c8 => ?_)
                      · have hm : ¬ (dc f g na nb (i + 1) j ≤ dc f g na nb i (j + 1)) := fun z => by rw [hr, if_pos (decide_eq_true z)] at c8; exact absurd c8 (by decide)
                        refine lv_aload_n hx hb dX0_writeScript_150 rfl (lv_at hl 6 rfl) ?_
                        refine lv_iconst (v := nI 2) hx hb dX0_writeScript_151 (by decide) ?_
                        refine lv_iload hx hb dX0_writeScript_152 (lv_at hl 2 rfl) ?_
                        refine lv_iload hx hb dX0_writeScript_154 (lv_at hl 1 rfl) ?_
                        refine lv_aload_n hx hb dX0_writeScript_156 rfl (lv_at hl 5 rfl) ?_
                        refine va_getN (D := (dC, dI)) (ci := 2) (v := .ref pb) (C := RX2) (T := TX2) (N := 2) hx hb hz hinX2 hown hK hP _ (z_right hbo) rfl 0 (by decide) (hN.use _ zn_52) (fun _ h9 => h9) rfl dX0_writeScript_157 ?_
                        refine lv_iload hx hb dX0_writeScript_160 (lv_at hl 1 rfl) ?_
                        refine z_iald (v := g j) hx hb hK hP _ 0 (z_right hbf) rfl (k := j) (by omega) (by omega) rfl dX0_writeScript_162 ?_
                        refine z_cvQ (wr := ([(hc, .inr (0, [.ref qr, .ref qe])), (qr, .inl (cI, 121, .inl rc)), (qe, .inl (cJ, 240, .inr (.inl eb)))] : va_W)) (cx := ([(h, .inr (3, [.ref qk, .ref qf, .ref qt, .ref qv, .int (nI k)])), (qk, .inl (cI, 240, .inl K1)), (qf, .inl (cI, 240, .inl F1)), (qt, .inl (cI, 240, .inl G1)), (qv, .inl (cI, 240, .inl V1))] : va_W)) hP hD hS hA [3, 4, 5, 6, 7] [0, 1, 2] rfl rfl (by decide) (by decide) (va_runV (As := [.int (nI 2), .int (nI i), .int (nI j), .int (g j)]) (rest := []) ⟨hx, hb, hml, hown, hz⟩ (c_Script_append l dC dI cI cJ cR h qk qf qt qv K1 F1 G1 V1 k (nI 2) (nI i) (nI j) (g j) (by omega) H.size) (cwV 4 hz (zgV zw_321 zw_322 zw_323 zw_25 zw_324) rfl rfl rfl (by decide +kernel) ⟨Nat.le_of_ble_eq_true rfl, Nat.le_of_ble_eq_true rfl⟩) ⟨zP_blind, z_recv hK hP (ci := 3) rfl rfl (q0 := 3) rfl, z_preQ hK hN hP hD [3, 4, 5, 6, 7] rfl (by decide)⟩ rfl rfl hl.1 rfl (lv_room (Nat.le_of_ble_eq_true rfl)) dX0_writeScript_163 ⟨Nat.le_of_ble_eq_true rfl, Nat.le_of_ble_eq_true rfl⟩) (fun w1 H locs hw hP hD hS => ?_)
                        subst hw
                        have hP : va_P (dC, dI) vwCl (([(hc, .inr (0, [.ref qr, .ref qe])), (qr, .inl (cI, 121, .inl rc)), (qe, .inl (cJ, 240, .inr (.inl eb))), (h, .inr (3, [.ref qk, .ref qf, .ref qt, .ref qv, .int (nI (k + 1))])), (qk, .inl (cI, 240, .inl (upd K1 k (nI 2)))), (qf, .inl (cI, 240, .inl (upd F1 k (nI i)))), (qt, .inl (cI, 240, .inl (upd G1 k (nI j)))), (qv, .inl (cI, 240, .inl (upd V1 k (g j))))] : va_W) ++ Rw) H := hP
                        have hD : va_D A (([(hc, .inr (0, [.ref qr, .ref qe])), (qr, .inl (cI, 121, .inl rc)), (qe, .inl (cJ, 240, .inr (.inl eb))), (h, .inr (3, [.ref qk, .ref qf, .ref qt, .ref qv, .int (nI (k + 1))])), (qk, .inl (cI, 240, .inl (upd K1 k (nI 2)))), (qf, .inl (cI, 240, .inl (upd F1 k (nI i)))), (qt, .inl (cI, 240, .inl (upd G1 k (nI j)))), (qv, .inl (cI, 240, .inl (upd V1 k (g j))))] : va_W) ++ Rw) := hD
                        refine lv_iinc (v := nI (j + 1)) (lv' := [(5, .int (nI (j + 1))), (6, .int (nI k)), (4, .int (nI i)), (0, .ref hc), (1, .ref ra), (2, .ref rb), (3, .ref h)]) hx hb dX0_writeScript_166 hl (k := 1) rfl (show nI j + 1 = nI (j + 1) from nI_1 _) (by decide) rfl (fun ls hl => ?_)
                        refine lv_iinc (v := nI (k + 1)) (lv' := [(6, .int (nI (k + 1))), (5, .int (nI (j + 1))), (4, .int (nI i)), (0, .ref hc), (1, .ref ra), (2, .ref rb), (3, .ref h)]) hx hb dX0_writeScript_169 hl (k := 1) rfl (show nI k + 1 = nI (k + 1) from nI_1 _) (by decide) rfl (fun ls hl => ?_)
                        refine lv_goto (tgt := 13) hx hb dX0_writeScript_172 (by decide) ?_
                        have hkd : kd f g na nb (ps f g na nb k).1 (ps f g na nb k).2 = 2 := by rw [hps]; exact kd_2b (by omega) (fun z => c9 z.2) hm
                        exact ih (k + 1) i (j + 1) _ _ _ _ _ _ ls (by omega) (by rw [ps_s, hkd, hps]; rfl) (by omega) (by omega) (by omega) (lt_s hnd (by rw [hps]; show i < na ∨ j < nb; omega)) (ag_s hag hkd hps (by rw [vl_2 hkd, hps])) hP hD hS (lv_sub hl [0, 1, 2, 3, 4, 5, 6] rfl)
                      · have hm : dc f g na nb (i + 1) j ≤ dc f g na nb i (j + 1) := by by_cases z : dc f g na nb (i + 1) j ≤ dc f g na nb i (j + 1); exact z; exact absurd (by rw [hr, if_neg (by rw [decide_eq_false z]; decide)]) c8
                        refine lv_aload_n hx hb dX0_writeScript_128 rfl (lv_at hl 6 rfl) ?_
                        refine lv_iconst (v := nI 1) hx hb dX0_writeScript_129 (by decide) ?_
                        refine lv_iload hx hb dX0_writeScript_130 (lv_at hl 2 rfl) ?_
                        refine lv_iload hx hb dX0_writeScript_132 (lv_at hl 1 rfl) ?_
                        refine lv_aload_n hx hb dX0_writeScript_134 rfl (lv_at hl 4 rfl) ?_
                        refine va_getN (D := (dC, dI)) (ci := 2) (v := .ref pa) (C := RX2) (T := TX2) (N := 2) hx hb hz hinX2 hown hK hP _ (z_right hao) rfl 0 (by decide) (hN.use _ zn_52) (fun _ h9 => h9) rfl dX0_writeScript_135 ?_
                        refine lv_iload hx hb dX0_writeScript_138 (lv_at hl 2 rfl) ?_
                        refine z_iald (v := f i) hx hb hK hP _ 0 (z_right haf) rfl (k := i) (by omega) (by omega) rfl dX0_writeScript_140 ?_
                        refine z_cvQ (wr := ([(hc, .inr (0, [.ref qr, .ref qe])), (qr, .inl (cI, 121, .inl rc)), (qe, .inl (cJ, 240, .inr (.inl eb)))] : va_W)) (cx := ([(h, .inr (3, [.ref qk, .ref qf, .ref qt, .ref qv, .int (nI k)])), (qk, .inl (cI, 240, .inl K1)), (qf, .inl (cI, 240, .inl F1)), (qt, .inl (cI, 240, .inl G1)), (qv, .inl (cI, 240, .inl V1))] : va_W)) hP hD hS hA [3, 4, 5, 6, 7] [0, 1, 2] rfl rfl (by decide) (by decide) (va_runV (As := [.int (nI 1), .int (nI i), .int (nI j), .int (f i)]) (rest := []) ⟨hx, hb, hml, hown, hz⟩ (c_Script_append l dC dI cI cJ cR h qk qf qt qv K1 F1 G1 V1 k (nI 1) (nI i) (nI j) (f i) (by omega) H.size) (cwV 4 hz (zgV zw_321 zw_322 zw_323 zw_25 zw_324) rfl rfl rfl (by decide +kernel) ⟨Nat.le_of_ble_eq_true rfl, Nat.le_of_ble_eq_true rfl⟩) ⟨zP_blind, z_recv hK hP (ci := 3) rfl rfl (q0 := 3) rfl, z_preQ hK hN hP hD [3, 4, 5, 6, 7] rfl (by decide)⟩ rfl rfl hl.1 rfl (lv_room (Nat.le_of_ble_eq_true rfl)) dX0_writeScript_141 ⟨Nat.le_of_ble_eq_true rfl, Nat.le_of_ble_eq_true rfl⟩) (fun w1 H locs hw hP hD hS => ?_)
                        subst hw
                        have hP : va_P (dC, dI) vwCl (([(hc, .inr (0, [.ref qr, .ref qe])), (qr, .inl (cI, 121, .inl rc)), (qe, .inl (cJ, 240, .inr (.inl eb))), (h, .inr (3, [.ref qk, .ref qf, .ref qt, .ref qv, .int (nI (k + 1))])), (qk, .inl (cI, 240, .inl (upd K1 k (nI 1)))), (qf, .inl (cI, 240, .inl (upd F1 k (nI i)))), (qt, .inl (cI, 240, .inl (upd G1 k (nI j)))), (qv, .inl (cI, 240, .inl (upd V1 k (f i))))] : va_W) ++ Rw) H := hP
                        have hD : va_D A (([(hc, .inr (0, [.ref qr, .ref qe])), (qr, .inl (cI, 121, .inl rc)), (qe, .inl (cJ, 240, .inr (.inl eb))), (h, .inr (3, [.ref qk, .ref qf, .ref qt, .ref qv, .int (nI (k + 1))])), (qk, .inl (cI, 240, .inl (upd K1 k (nI 1)))), (qf, .inl (cI, 240, .inl (upd F1 k (nI i)))), (qt, .inl (cI, 240, .inl (upd G1 k (nI j)))), (qv, .inl (cI, 240, .inl (upd V1 k (f i))))] : va_W) ++ Rw) := hD
                        refine lv_iinc (v := nI (i + 1)) (lv' := [(4, .int (nI (i + 1))), (6, .int (nI k)), (5, .int (nI j)), (0, .ref hc), (1, .ref ra), (2, .ref rb), (3, .ref h)]) hx hb dX0_writeScript_144 hl (k := 2) rfl (show nI i + 1 = nI (i + 1) from nI_1 _) (by decide) rfl (fun ls hl => ?_)
                        refine lv_goto (tgt := 169) hx hb dX0_writeScript_147 (by decide) ?_
                        refine lv_iinc (v := nI (k + 1)) (lv' := [(6, .int (nI (k + 1))), (4, .int (nI (i + 1))), (5, .int (nI j)), (0, .ref hc), (1, .ref ra), (2, .ref rb), (3, .ref h)]) hx hb dX0_writeScript_169 hl (k := 1) rfl (show nI k + 1 = nI (k + 1) from nI_1 _) (by decide) rfl (fun ls hl => ?_)
                        refine lv_goto (tgt := 13) hx hb dX0_writeScript_172 (by decide) ?_
                        have hkd : kd f g na nb (ps f g na nb k).1 (ps f g na nb k).2 = 1 := by rw [hps]; exact kd_1 (by omega) (fun z => c9 z.2) (Or.inr hm)
                        exact ih (k + 1) (i + 1) j _ _ _ _ _ _ ls (by omega) (by rw [ps_s, hkd, hps]; rfl) (by omega) (by omega) (by omega) (lt_s hnd (by rw [hps]; show i < na ∨ j < nb; omega)) (ag_s hag hkd hps (by rw [vl_0 hkd, hps])) hP hD hS (lv_sub hl [0, 2, 1, 3, 4, 5, 6] rfl)
                · refine lv_aload_n hx hb dX0_writeScript_74 rfl (lv_at hl 6 rfl) ?_
                  refine lv_iconst (v := nI 0) hx hb dX0_writeScript_75 (by decide) ?_
                  refine lv_iload hx hb dX0_writeScript_76 (lv_at hl 2 rfl) ?_
                  refine lv_iload hx hb dX0_writeScript_78 (lv_at hl 1 rfl) ?_
                  refine lv_aload_n hx hb dX0_writeScript_80 rfl (lv_at hl 4 rfl) ?_
                  refine va_getN (D := (dC, dI)) (ci := 2) (v := .ref pa) (C := RX2) (T := TX2) (N := 2) hx hb hz hinX2 hown hK hP _ (z_right hao) rfl 0 (by decide) (hN.use _ zn_52) (fun _ h9 => h9) rfl dX0_writeScript_81 ?_
                  refine lv_iload hx hb dX0_writeScript_84 (lv_at hl 2 rfl) ?_
                  refine z_iald (v := f i) hx hb hK hP _ 0 (z_right haf) rfl (k := i) (by omega) (by omega) rfl dX0_writeScript_86 ?_
                  refine z_cvQ (wr := ([(hc, .inr (0, [.ref qr, .ref qe])), (qr, .inl (cI, 121, .inl rc)), (qe, .inl (cJ, 240, .inr (.inl eb)))] : va_W)) (cx := ([(h, .inr (3, [.ref qk, .ref qf, .ref qt, .ref qv, .int (nI k)])), (qk, .inl (cI, 240, .inl K1)), (qf, .inl (cI, 240, .inl F1)), (qt, .inl (cI, 240, .inl G1)), (qv, .inl (cI, 240, .inl V1))] : va_W)) hP hD hS hA [3, 4, 5, 6, 7] [0, 1, 2] rfl rfl (by decide) (by decide) (va_runV (As := [.int (nI 0), .int (nI i), .int (nI j), .int (f i)]) (rest := []) ⟨hx, hb, hml, hown, hz⟩ (c_Script_append l dC dI cI cJ cR h qk qf qt qv K1 F1 G1 V1 k (nI 0) (nI i) (nI j) (f i) (by omega) H.size) (cwV 4 hz (zgV zw_321 zw_322 zw_323 zw_25 zw_324) rfl rfl rfl (by decide +kernel) ⟨Nat.le_of_ble_eq_true rfl, Nat.le_of_ble_eq_true rfl⟩) ⟨zP_blind, z_recv hK hP (ci := 3) rfl rfl (q0 := 3) rfl, z_preQ hK hN hP hD [3, 4, 5, 6, 7] rfl (by decide)⟩ rfl rfl hl.1 rfl (lv_room (Nat.le_of_ble_eq_true rfl)) dX0_writeScript_87 ⟨Nat.le_of_ble_eq_true rfl, Nat.le_of_ble_eq_true rfl⟩) (fun w1 H locs hw hP hD hS => ?_)
                  subst hw
                  have hP : va_P (dC, dI) vwCl (([(hc, .inr (0, [.ref qr, .ref qe])), (qr, .inl (cI, 121, .inl rc)), (qe, .inl (cJ, 240, .inr (.inl eb))), (h, .inr (3, [.ref qk, .ref qf, .ref qt, .ref qv, .int (nI (k + 1))])), (qk, .inl (cI, 240, .inl (upd K1 k (nI 0)))), (qf, .inl (cI, 240, .inl (upd F1 k (nI i)))), (qt, .inl (cI, 240, .inl (upd G1 k (nI j)))), (qv, .inl (cI, 240, .inl (upd V1 k (f i))))] : va_W) ++ Rw) H := hP
                  have hD : va_D A (([(hc, .inr (0, [.ref qr, .ref qe])), (qr, .inl (cI, 121, .inl rc)), (qe, .inl (cJ, 240, .inr (.inl eb))), (h, .inr (3, [.ref qk, .ref qf, .ref qt, .ref qv, .int (nI (k + 1))])), (qk, .inl (cI, 240, .inl (upd K1 k (nI 0)))), (qf, .inl (cI, 240, .inl (upd F1 k (nI i)))), (qt, .inl (cI, 240, .inl (upd G1 k (nI j)))), (qv, .inl (cI, 240, .inl (upd V1 k (f i))))] : va_W) ++ Rw) := hD
                  refine lv_iinc (v := nI (i + 1)) (lv' := [(4, .int (nI (i + 1))), (6, .int (nI k)), (5, .int (nI j)), (0, .ref hc), (1, .ref ra), (2, .ref rb), (3, .ref h)]) hx hb dX0_writeScript_90 hl (k := 2) rfl (show nI i + 1 = nI (i + 1) from nI_1 _) (by decide) rfl (fun ls hl => ?_)
                  refine lv_iinc (v := nI (j + 1)) (lv' := [(5, .int (nI (j + 1))), (4, .int (nI (i + 1))), (6, .int (nI k)), (0, .ref hc), (1, .ref ra), (2, .ref rb), (3, .ref h)]) hx hb dX0_writeScript_93 hl (k := 2) rfl (show nI j + 1 = nI (j + 1) from nI_1 _) (by decide) rfl (fun ls hl => ?_)
                  refine lv_goto (tgt := 169) hx hb dX0_writeScript_96 (by decide) ?_
                  refine lv_iinc (v := nI (k + 1)) (lv' := [(6, .int (nI (k + 1))), (5, .int (nI (j + 1))), (4, .int (nI (i + 1))), (0, .ref hc), (1, .ref ra), (2, .ref rb), (3, .ref h)]) hx hb dX0_writeScript_169 hl (k := 2) rfl (show nI k + 1 = nI (k + 1) from nI_1 _) (by decide) rfl (fun ls hl => ?_)
                  refine lv_goto (tgt := 13) hx hb dX0_writeScript_172 (by decide) ?_
                  have hkd : kd f g na nb (ps f g na nb k).1 (ps f g na nb k).2 = 0 := by rw [hps]; exact kd_0 (by omega) (by omega) c9
                  exact ih (k + 1) (i + 1) (j + 1) _ _ _ _ _ _ ls (by omega) (by rw [ps_s, hkd, hps]; rfl) (by omega) (by omega) (by omega) (lt_s hnd (by rw [hps]; show i < na ∨ j < nb; omega)) (ag_s hag hkd hps (by rw [vl_0 hkd, hps])) hP hD hS (lv_sub hl [0, 1, 2, 3, 4, 5, 6] rfl)
  exact L1 240 0 0 0 K F G V _ _ ls (by omega) rfl (by omega) (by omega) (by omega) (fun k' h => absurd h (Nat.not_lt_zero k')) (fun k' h => absurd h (Nat.not_lt_zero k')) hP hD hS (lv_sub hl [0, 1, 2, 3, 4, 5, 6] rfl)

abbrev rm_X0_compare : Room := { frames := 4, cells := 0, slots := 0, locals := 97 }
set_option maxHeartbeats 4000000 in
set_option maxRecDepth 100000 in
theorem c_Cmp_compare (l : Launch) (dC : Nat → ClassId) (dI : Nat → Nat → Nat) (cI cJ cR : ClassId) (hc qr qe : Nat) (rc : Nat → Int32) (eb : Nat → Int64) (h qk qf qt qv : Nat) (K F G V : Nat → Int32) (Rw : va_W) (ja ka jb kb ra pa rb pb na nb : Nat) (f g : Nat → Int32) (n0 : Int32) (hna : na ≤ 120) (hnb : nb ≤ 120) (hao : Rw[ja]? = some (rO ra pa na)) (haf : Rw[ka]? = some (rF cI pa f)) (hbo : Rw[jb]? = some (rO rb pb nb)) (hbf : Rw[kb]? = some (rF cI pb g)) : zI l (dC, dI) vwCl (zT cI cJ cR) zNW yX0_compare wsX0_compare rm_X0_compare [.ref hc, .ref ra, .ref rb, .ref h] (([(hc, .inr (0, [.ref qr, .ref qe])), (qr, .inl (cI, 121, .inl rc)), (qe, .inl (cJ, 240, .inr (.inl eb))), (h, .inr (3, [.ref qk, .ref qf, .ref qt, .ref qv, .int n0])), (qk, .inl (cI, 240, .inl K)), (qf, .inl (cI, 240, .inl F)), (qt, .inl (cI, 240, .inl G)), (qv, .inl (cI, 240, .inl V))] : va_W) ++ Rw) (fun r w => r = nI (dc f g na nb 0 0) ∧ ∃ (rc' : Nat → Int32) (eb' : Nat → Int64), (100 < dc f g na nb 0 0 ∧ w = (([(hc, .inr (0, [.ref qr, .ref qe])), (qr, .inl (cI, 121, .inl rc')), (qe, .inl (cJ, 240, .inr (.inl eb'))), (h, .inr (3, [.ref qk, .ref qf, .ref qt, .ref qv, .int n0])), (qk, .inl (cI, 240, .inl K)), (qf, .inl (cI, 240, .inl F)), (qt, .inl (cI, 240, .inl G)), (qv, .inl (cI, 240, .inl V))] : va_W) ++ Rw)) ∨ (dc f g na nb 0 0 ≤ 100 ∧ ∃ (n : Nat) (K' F' G' V' : Nat → Int32), n ≤ 240 ∧ (ps f g na nb n) = (na, nb) ∧ (∀ k', k' < n → (ps f g na nb k').1 < na ∨ (ps f g na nb k').2 < nb) ∧ agr f g na nb K' F' G' V' n ∧ w = (([(hc, .inr (0, [.ref qr, .ref qe])), (qr, .inl (cI, 121, .inl rc')), (qe, .inl (cJ, 240, .inr (.inl eb'))), (h, .inr (3, [.ref qk, .ref qf, .ref qt, .ref qv, .int (nI n)])), (qk, .inl (cI, 240, .inl K')), (qf, .inl (cI, 240, .inl F')), (qt, .inl (cI, 240, .inl G')), (qv, .inl (cI, 240, .inl V'))] : va_W) ++ Rw))) := by
  refine z_ofI (cc := cX0_compare) (maxL := 5) (Or.inl rfl) (by decide) rfl (Nat.le_of_ble_eq_true rfl) ?_
  intro p e s m args below meth c A Q ls hI hret
  obtain ⟨hx, hb, hml, hown, hts, hnm, hA, hK, hN, hP, hD, hS, hl⟩ := hI
  have hown : s.vm.findClass RX0 = some m.cls := hown
  have hl : lv_has ls 5 [(0, .ref hc), (1, .ref ra), (2, .ref rb), (3, .ref h)] := hl
  have hP : va_P (dC, dI) vwCl (([(hc, .inr (0, [.ref qr, .ref qe])), (qr, .inl (cI, 121, .inl rc)), (qe, .inl (cJ, 240, .inr (.inl eb))), (h, .inr (3, [.ref qk, .ref qf, .ref qt, .ref qv, .int n0])), (qk, .inl (cI, 240, .inl K)), (qf, .inl (cI, 240, .inl F)), (qt, .inl (cI, 240, .inl G)), (qv, .inl (cI, 240, .inl V))] : va_W) ++ Rw) s.heap := hP
  have hD : va_D A (([(hc, .inr (0, [.ref qr, .ref qe])), (qr, .inl (cI, 121, .inl rc)), (qe, .inl (cJ, 240, .inr (.inl eb))), (h, .inr (3, [.ref qk, .ref qf, .ref qt, .ref qv, .int n0])), (qk, .inl (cI, 240, .inl K)), (qf, .inl (cI, 240, .inl F)), (qt, .inl (cI, 240, .inl G)), (qv, .inl (cI, 240, .inl V))] : va_W) ++ Rw) := hD
  have hz : ∀ w ∈ zW, w.before args s = true := fun w h => hts w (List.mem_cons_of_mem _ h)
  have hdl := dc_le (F := f) (G := g) (na := na) (nb := nb) (i := 0) (j := 0)
  refine lv_aload_n hx hb dX0_compare_0 rfl (lv_at hl 0 rfl) ?_
  refine lv_aload_n hx hb dX0_compare_1 rfl (lv_at hl 1 rfl) ?_
  refine lv_aload_n hx hb dX0_compare_2 rfl (lv_at hl 2 rfl) ?_
  refine z_ciP (wr := ([(h, .inr (3, [.ref qk, .ref qf, .ref qt, .ref qv, .int n0])), (qk, .inl (cI, 240, .inl K)), (qf, .inl (cI, 240, .inl F)), (qt, .inl (cI, 240, .inl G)), (qv, .inl (cI, 240, .inl V))] : va_W)) (cx := ([(hc, .inr (0, [.ref qr, .ref qe])), (qr, .inl (cI, 121, .inl rc)), (qe, .inl (cJ, 240, .inr (.inl eb)))] : va_W)) hP hD hS hA [0, 1, 2] [3, 4, 5, 6, 7] rfl rfl (by decide) (by decide) (va_runV (As := [.ref ra, .ref rb]) (rest := []) ⟨hx, hb, hml, hown, hz⟩ (c_Cmp_find l dC dI cI cJ cR hc qr qe rc eb Rw ja ka jb kb ra pa rb pb na nb f g hna hnb hao haf hbo hbf s.heap.size) (cwV 2 hz (zgV zw_294 zw_296 zw_3 zw_24 zw_297) rfl rfl rfl (by decide +kernel) ⟨Nat.le_of_ble_eq_true rfl, Nat.le_of_ble_eq_true rfl⟩) ⟨zP_blind, z_recv hK hP (ci := 0) rfl rfl (q0 := 0) rfl, z_preP hK hN hP hD [0, 1, 2] rfl (by decide)⟩ rfl rfl hl.1 rfl (lv_room (Nat.le_of_ble_eq_true rfl)) dX0_compare_3 ⟨Nat.le_of_ble_eq_true rfl, Nat.le_of_ble_eq_true rfl⟩) (fun r w1 H locs hw hjn hS => ?_)
  obtain ⟨rc2, eb2, rfl, hbits, hw⟩ := hw
  obtain ⟨hP, hD⟩ := hjn ([(hc, .inr (0, [.ref qr, .ref qe])), (qr, .inl (cI, 121, .inl rc2)), (qe, .inl (cJ, 240, .inr (.inl eb2)))] : va_W) Rw hw
  have hP : va_P (dC, dI) vwCl (([(h, .inr (3, [.ref qk, .ref qf, .ref qt, .ref qv, .int n0])), (qk, .inl (cI, 240, .inl K)), (qf, .inl (cI, 240, .inl F)), (qt, .inl (cI, 240, .inl G)), (qv, .inl (cI, 240, .inl V)), (hc, .inr (0, [.ref qr, .ref qe])), (qr, .inl (cI, 121, .inl rc2)), (qe, .inl (cJ, 240, .inr (.inl eb2)))] : va_W) ++ Rw) H := hP
  have hD : va_D A (([(h, .inr (3, [.ref qk, .ref qf, .ref qt, .ref qv, .int n0])), (qk, .inl (cI, 240, .inl K)), (qf, .inl (cI, 240, .inl F)), (qt, .inl (cI, 240, .inl G)), (qv, .inl (cI, 240, .inl V)), (hc, .inr (0, [.ref qr, .ref qe])), (qr, .inl (cI, 121, .inl rc2)), (qe, .inl (cJ, 240, .inr (.inl eb2)))] : va_W) ++ Rw) := hD
  have hP := z_permP (cx := ([(hc, .inr (0, [.ref qr, .ref qe])), (qr, .inl (cI, 121, .inl rc2)), (qe, .inl (cJ, 240, .inr (.inl eb2))), (h, .inr (3, [.ref qk, .ref qf, .ref qt, .ref qv, .int n0])), (qk, .inl (cI, 240, .inl K)), (qf, .inl (cI, 240, .inl F)), (qt, .inl (cI, 240, .inl G)), (qv, .inl (cI, 240, .inl V))] : va_W)) hP [5, 6, 7, 0, 1, 2, 3, 4] rfl
  have hD := z_permD (cx := ([(hc, .inr (0, [.ref qr, .ref qe])), (qr, .inl (cI, 121, .inl rc2)), (qe, .inl (cJ, 240, .inr (.inl eb2))), (h, .inr (3, [.ref qk, .ref qf, .ref qt, .ref qv, .int n0])), (qk, .inl (cI, 240, .inl K)), (qf, .inl (cI, 240, .inl F)), (qt, .inl (cI, 240, .inl G)), (qv, .inl (cI, 240, .inl V))] : va_W)) hD [5, 6, 7, 0, 1, 2, 3, 4] rfl (by decide)
  refine lv_istore (lv' := [(4, .int (nI (dc f g na nb 0 0))), (0, .ref hc), (1, .ref ra), (2, .ref rb), (3, .ref h)]) hx hb dX0_compare_6 hl (by decide) rfl (fun ls hl => ?_)
  refine lv_iload hx hb dX0_compare_8 (lv_at hl 0 rfl) ?_
  refine lv_bipush (v := nI 100) hx hb dX0_compare_10 (by decide) ?_
  refine lv_icmp_gt (tgt := 22) hx hb dX0_compare_12 (by decide) (fun bb1 => ?_) (fun bb1 => ?_)
  · have bb1 : 100 < (dc f g na nb 0 0) := (nI_ltI (by omega) (by omega)).mp bb1
    refine lv_iload hx hb dX0_compare_22 (lv_at hl 0 rfl) ?_
    exact hret H locs _ (([(hc, .inr (0, [.ref qr, .ref qe])), (qr, .inl (cI, 121, .inl rc2)), (qe, .inl (cJ, 240, .inr (.inl eb2))), (h, .inr (3, [.ref qk, .ref qf, .ref qt, .ref qv, .int n0])), (qk, .inl (cI, 240, .inl K)), (qf, .inl (cI, 240, .inl F)), (qt, .inl (cI, 240, .inl G)), (qv, .inl (cI, 240, .inl V))] : va_W) ++ Rw) _ ls hP hD hS dX0_compare_24 ⟨rfl, rc2, eb2, Or.inl ⟨by omega, rfl⟩⟩
  · have bb1 : ¬ (100 < (dc f g na nb 0 0)) := fun h => bb1 ((nI_ltI (by omega) (by omega)).mpr h)
    refine lv_aload_n hx hb dX0_compare_15 rfl (lv_at hl 1 rfl) ?_
    refine lv_aload_n hx hb dX0_compare_16 rfl (lv_at hl 2 rfl) ?_
    refine lv_aload_n hx hb dX0_compare_17 rfl (lv_at hl 3 rfl) ?_
    refine lv_aload_n hx hb dX0_compare_18 rfl (lv_at hl 4 rfl) ?_
    refine z_cvP (wr := ([] : va_W)) (cx := ([(hc, .inr (0, [.ref qr, .ref qe])), (qr, .inl (cI, 121, .inl rc2)), (qe, .inl (cJ, 240, .inr (.inl eb2))), (h, .inr (3, [.ref qk, .ref qf, .ref qt, .ref qv, .int n0])), (qk, .inl (cI, 240, .inl K)), (qf, .inl (cI, 240, .inl F)), (qt, .inl (cI, 240, .inl G)), (qv, .inl (cI, 240, .inl V))] : va_W)) hP hD hS hA [0, 1, 2, 3, 4, 5, 6, 7] [] rfl rfl (by decide) (by decide) (va_runV (As := [.ref ra, .ref rb, .ref h]) (rest := []) ⟨hx, hb, hml, hown, hz⟩ (c_Cmp_write l dC dI cI cJ cR hc qr qe rc2 eb2 h qk qf qt qv K F G V Rw ja ka jb kb ra pa rb pb na nb f g n0 hna hnb hao haf hbo hbf hbits H.size) (cwV 3 hz (zgV zw_313 zw_315 zw_6 zw_24 zw_316) rfl rfl rfl (by decide +kernel) ⟨Nat.le_of_ble_eq_true rfl, Nat.le_of_ble_eq_true rfl⟩) ⟨zP_blind, z_recv hK hP (ci := 0) rfl rfl (q0 := 0) rfl, z_preP hK hN hP hD [0, 1, 2, 3, 4, 5, 6, 7] rfl (by decide)⟩ rfl rfl hl.1 rfl (lv_room (Nat.le_of_ble_eq_true rfl)) dX0_compare_19 ⟨Nat.le_of_ble_eq_true rfl, Nat.le_of_ble_eq_true rfl⟩) (fun w1 H locs hw hjn hS => ?_)
    obtain ⟨n, K2, F2, G2, V2, h1, h2, h3, h4, hw⟩ := hw
    obtain ⟨hP, hD⟩ := hjn ([(hc, .inr (0, [.ref qr, .ref qe])), (qr, .inl (cI, 121, .inl rc2)), (qe, .inl (cJ, 240, .inr (.inl eb2))), (h, .inr (3, [.ref qk, .ref qf, .ref qt, .ref qv, .int (nI n)])), (qk, .inl (cI, 240, .inl K2)), (qf, .inl (cI, 240, .inl F2)), (qt, .inl (cI, 240, .inl G2)), (qv, .inl (cI, 240, .inl V2))] : va_W) Rw hw
    have hP : va_P (dC, dI) vwCl (([(hc, .inr (0, [.ref qr, .ref qe])), (qr, .inl (cI, 121, .inl rc2)), (qe, .inl (cJ, 240, .inr (.inl eb2))), (h, .inr (3, [.ref qk, .ref qf, .ref qt, .ref qv, .int (nI n)])), (qk, .inl (cI, 240, .inl K2)), (qf, .inl (cI, 240, .inl F2)), (qt, .inl (cI, 240, .inl G2)), (qv, .inl (cI, 240, .inl V2))] : va_W) ++ Rw) H := hP
    have hD : va_D A (([(hc, .inr (0, [.ref qr, .ref qe])), (qr, .inl (cI, 121, .inl rc2)), (qe, .inl (cJ, 240, .inr (.inl eb2))), (h, .inr (3, [.ref qk, .ref qf, .ref qt, .ref qv, .int (nI n)])), (qk, .inl (cI, 240, .inl K2)), (qf, .inl (cI, 240, .inl F2)), (qt, .inl (cI, 240, .inl G2)), (qv, .inl (cI, 240, .inl V2))] : va_W) ++ Rw) := hD
    refine lv_iload hx hb dX0_compare_22 (lv_at hl 0 rfl) ?_
    exact hret H locs _ (([(hc, .inr (0, [.ref qr, .ref qe])), (qr, .inl (cI, 121, .inl rc2)), (qe, .inl (cJ, 240, .inr (.inl eb2))), (h, .inr (3, [.ref qk, .ref qf, .ref qt, .ref qv, .int (nI n)])), (qk, .inl (cI, 240, .inl K2)), (qf, .inl (cI, 240, .inl F2)), (qt, .inl (cI, 240, .inl G2)), (qv, .inl (cI, 240, .inl V2))] : va_W) ++ Rw) _ ls hP hD hS dX0_compare_24 ⟨rfl, rc2, eb2, Or.inr ⟨by omega, n, K2, F2, G2, V2, h1, h2, h3, h4, rfl⟩⟩
