theorem zgSW {own : String} {ix : Nat} {y : MethodName} {w : Cond} (h1 : Cond.methodLink own ix y ∈ zW) (h2 : Cond.static y ∈ zW) (h3 : Cond.initialized y.cls ∈ zW) (h : w ∈ zW) : GoodIn zW (va_wsS own ix y (w :: zW)) := by
  intro w2 hw
  unfold va_wsS at hw
  rcases List.mem_append.mp hw with h9 | h9
  · simp only [List.mem_cons, List.not_mem_nil, or_false] at h9
    rcases h9 with rfl | rfl | rfl
    · exact zgW _ h1
    · exact zgW _ h2
    · exact zgW _ h3
  · exact zgI h w2 h9

abbrev rm_L_number : Room := { frames := 8, cells := 2, slots := 12, locals := 134 }
set_option maxHeartbeats 4000000 in
set_option maxRecDepth 100000 in
theorem h_number (l : Launch) (dC : Nat → ClassId) (dI : Nat → Nat → Nat) (cI cJ cR : ClassId) (x ao : Nat) (a0 a1 : Int32) (ob : Nat → Int64) (Tw : va_W) (fs0 : List Value) (post : Int32 → va_W → Prop) (pe : String → va_W → Prop) (hrecv : Tw[0]? = some (x, .inr (4, fs0))) (hcal : zIX l (dC, dI) vwCl (zT cI cJ cR) zNW yX4_number wsX4_number rm_X4_number [.ref x, .int a0, .int a1] Tw post pe) (hpe : ∀ E w, pe E w → E = "java/lang/IndexOutOfBoundsException") : zIH l (dC, dI) vwCl (zT cI cJ cR) zNW yL_number wsL_number rm_L_number [.ref x, .int a0, .int a1, .ref ao] (([(ao, .inl (cJ, 1, .inr (.inl ob)))] : va_W) ++ Tw) (fun z w => (z = nI 0 ∧ ∃ (r : Int32) (w1 : va_W), post r w1 ∧ w = (([(ao, .inl (cJ, 1, .inr (.inl (vp_updL ob 0 r.toInt64))))] : va_W) ++ w1)) ∨ (∃ (E : String) (w1 : va_W), pe E w1 ∧ ((E = "java/lang/IndexOutOfBoundsException" ∧ z = nI 1)) ∧ w = (([(ao, .inl (cJ, 1, .inr (.inl ob)))] : va_W) ++ w1))) := by
  refine z_ofIH (cc := cL_number) (maxL := 5) (hh := [(0, 10, 13, 13)]) (by decide) rfl (Nat.le_of_ble_eq_true rfl) ?_
  intro p e s m args below meth c A Q ls hI hT hNc htab hret
  obtain ⟨hx, hb, hml, hown, hts, hnm, hA, hK, hN, hP, hD, hS, hl⟩ := hI
  have hown : s.vm.findClass RL = some m.cls := hown
  have hl : lv_has ls 5 [(0, .ref x), (1, .int a0), (2, .int a1), (3, .ref ao)] := hl
  have hP : va_P (dC, dI) vwCl (([(ao, .inl (cJ, 1, .inr (.inl ob)))] : va_W) ++ Tw) s.heap := hP
  have hD : va_D A (([(ao, .inl (cJ, 1, .inr (.inl ob)))] : va_W) ++ Tw) := hD
  have hz : ∀ w ∈ zW, w.before args s = true := fun w h => hts w (List.mem_cons_of_mem _ h)
  refine lv_aload_n hx hb dL_number_0 rfl (lv_at hl 3 rfl) ?_
  refine lv_iconst (v := nI 0) hx hb dL_number_1 (by decide) ?_
  refine lv_aload_n hx hb dL_number_2 rfl (lv_at hl 0 rfl) ?_
  refine lv_iload_n hx hb dL_number_3 rfl (lv_at hl 1 rfl) ?_
  refine lv_iload_n hx hb dL_number_4 rfl (lv_at hl 2 rfl) ?_
  refine z_ciPX (cx := ([] : va_W)) (wr := ([(ao, .inl (cJ, 1, .inr (.inl ob)))] : va_W)) (T := Tw) hP hD hS hA [] [0] rfl rfl (by decide) (by decide) (vx_runV (As := [.int a0, .int a1]) (rest := [.int (nI 0), .ref ao]) ⟨hx, hb, hml, hown, hz⟩ (hcal s.heap.size) (cwV 2 hz (zgV zw_205 zw_206 zw_207 zw_22 zw_208) rfl rfl rfl (by decide +kernel) ⟨Nat.le_of_ble_eq_true rfl, Nat.le_of_ble_eq_true rfl⟩) ⟨zPx_blind, z_recv hK hP (ci := 4) rfl rfl (z_right hrecv), z_prePX (cx := ([] : va_W)) hK hN hT hS hA hP hD [] rfl (by decide)⟩ rfl rfl hl.1 rfl (lv_room (Nat.le_of_ble_eq_true rfl)) dL_number_5 ⟨Nat.le_of_ble_eq_true rfl, Nat.le_of_ble_eq_true rfl⟩) (fun E ce q9 w1 H locs hw hjn hS hce hcv hcl => ?_) (fun r w1 H locs hw hjn hS => ?_)
  · obtain ⟨hP, hD⟩ := hjn w1 [] (List.append_nil w1).symm
    rw [List.append_nil] at hP hD
    have hP : va_P (dC, dI) vwCl (([(ao, .inl (cJ, 1, .inr (.inl ob)))] : va_W) ++ w1) H := hP
    have hD : va_D A (([(ao, .inl (cJ, 1, .inr (.inl ob)))] : va_W) ++ w1) := hD
    rcases hpe E w1 hw with rfl
    · refine vx_catch (own := RL) (name := "java/lang/IndexOutOfBoundsException") hown [] ⟨0, 10, 13, 13⟩ [] htab (fun z hz9 => absurd hz9 List.not_mem_nil) (by decide) (by decide) (hz _ zw_204) (hN.use _ zn_215) hce hcv hcl ?_
      refine lv_astore (lv' := [(4, .ref q9), (0, .ref x), (1, .int a0), (2, .int a1), (3, .ref ao)]) hx hb dL_number_13 hl (by decide) rfl (fun ls hl => ?_)
      refine lv_iconst (v := nI 1) hx hb dL_number_15 (by decide) ?_
      refine W.widen (k := 2) (n := 12) (Nat.le_of_ble_eq_true rfl) (Nat.le_of_ble_eq_true rfl) ?_
      exact hret H locs _ (([(ao, .inl (cJ, 1, .inr (.inl ob)))] : va_W) ++ w1) _ ls hP hD hS dL_number_16 (Or.inr ⟨_, w1, hw, ⟨rfl, rfl⟩, rfl⟩)
  · obtain ⟨hP, hD⟩ := hjn w1 [] (List.append_nil w1).symm
    rw [List.append_nil] at hP hD
    have hP : va_P (dC, dI) vwCl (([(ao, .inl (cJ, 1, .inr (.inl ob)))] : va_W) ++ w1) H := hP
    have hD : va_D A (([(ao, .inl (cJ, 1, .inr (.inl ob)))] : va_W) ++ w1) := hD
    refine lv_i2l (v := r.toInt64) hx hb dL_number_8 rfl ?_
    refine z_last hx hb hK hP hD hS 0 1 rfl rfl (k := 0) (by omega) (by omega) dL_number_9 (fun H locs hP hD hS => ?_)
    have hP : va_P (dC, dI) vwCl (([(ao, .inl (cJ, 1, .inr (.inl (vp_updL ob 0 r.toInt64))))] : va_W) ++ w1) H := hP
    have hD : va_D A (([(ao, .inl (cJ, 1, .inr (.inl (vp_updL ob 0 r.toInt64))))] : va_W) ++ w1) := hD
    refine lv_goto (tgt := 17) hx hb dL_number_10 (by decide) ?_
    refine lv_iconst (v := nI 0) hx hb dL_number_17 (by decide) ?_
    refine W.widen (k := 2) (n := 12) (Nat.le_of_ble_eq_true rfl) (Nat.le_of_ble_eq_true rfl) ?_
    exact hret H locs _ (([(ao, .inl (cJ, 1, .inr (.inl (vp_updL ob 0 r.toInt64))))] : va_W) ++ w1) _ ls hP hD hS dL_number_18 (Or.inl ⟨rfl, r, w1, hw, rfl⟩)

abbrev rm_L_diff : Room := { frames := 8, cells := 3, slots := 18, locals := 146 }
set_option maxHeartbeats 4000000 in
set_option maxRecDepth 100000 in
theorem h_diff (l : Launch) (dC : Nat → ClassId) (dI : Nat → Nat → Nat) (cI cJ cR : ClassId) (x ao : Nat) (a0 a1 : Int32) (ob : Nat → Int64) (Tw : va_W) (fs0 : List Value) (post : Int32 → va_W → Prop) (pe : String → va_W → Prop) (hrecv : Tw[0]? = some (x, .inr (4, fs0))) (hcal : zIX l (dC, dI) vwCl (zT cI cJ cR) zNW yX4_diff wsX4_diff rm_X4_diff [.ref x, .int a0, .int a1] Tw post pe) (hpe : ∀ E w, pe E w → E = "java/lang/IndexOutOfBoundsException" ∨ E = "java/lang/IllegalStateException") : zIH l (dC, dI) vwCl (zT cI cJ cR) zNW yL_diff wsL_diff rm_L_diff [.ref x, .int a0, .int a1, .ref ao] (([(ao, .inl (cJ, 1, .inr (.inl ob)))] : va_W) ++ Tw) (fun z w => (z = nI 0 ∧ ∃ (r : Int32) (w1 : va_W), post r w1 ∧ w = (([(ao, .inl (cJ, 1, .inr (.inl (vp_updL ob 0 r.toInt64))))] : va_W) ++ w1)) ∨ (∃ (E : String) (w1 : va_W), pe E w1 ∧ ((E = "java/lang/IndexOutOfBoundsException" ∧ z = nI 1) ∨ (E = "java/lang/IllegalStateException" ∧ z = nI 2)) ∧ w = (([(ao, .inl (cJ, 1, .inr (.inl ob)))] : va_W) ++ w1))) := by
  refine z_ofIH (cc := cL_diff) (maxL := 5) (hh := [(0, 10, 13, 13), (0, 10, 17, 18)]) (by decide) rfl (Nat.le_of_ble_eq_true rfl) ?_
  intro p e s m args below meth c A Q ls hI hT hNc htab hret
  obtain ⟨hx, hb, hml, hown, hts, hnm, hA, hK, hN, hP, hD, hS, hl⟩ := hI
  have hown : s.vm.findClass RL = some m.cls := hown
  have hl : lv_has ls 5 [(0, .ref x), (1, .int a0), (2, .int a1), (3, .ref ao)] := hl
  have hP : va_P (dC, dI) vwCl (([(ao, .inl (cJ, 1, .inr (.inl ob)))] : va_W) ++ Tw) s.heap := hP
  have hD : va_D A (([(ao, .inl (cJ, 1, .inr (.inl ob)))] : va_W) ++ Tw) := hD
  have hz : ∀ w ∈ zW, w.before args s = true := fun w h => hts w (List.mem_cons_of_mem _ h)
  refine lv_aload_n hx hb dL_diff_0 rfl (lv_at hl 3 rfl) ?_
  refine lv_iconst (v := nI 0) hx hb dL_diff_1 (by decide) ?_
  refine lv_aload_n hx hb dL_diff_2 rfl (lv_at hl 0 rfl) ?_
  refine lv_iload_n hx hb dL_diff_3 rfl (lv_at hl 1 rfl) ?_
  refine lv_iload_n hx hb dL_diff_4 rfl (lv_at hl 2 rfl) ?_
  refine z_ciPX (cx := ([] : va_W)) (wr := ([(ao, .inl (cJ, 1, .inr (.inl ob)))] : va_W)) (T := Tw) hP hD hS hA [] [0] rfl rfl (by decide) (by decide) (vx_runV (As := [.int a0, .int a1]) (rest := [.int (nI 0), .ref ao]) ⟨hx, hb, hml, hown, hz⟩ (hcal s.heap.size) (cwV 2 hz (zgV zw_286 zw_287 zw_288 zw_22 zw_289) rfl rfl rfl (by decide +kernel) ⟨Nat.le_of_ble_eq_true rfl, Nat.le_of_ble_eq_true rfl⟩) ⟨zPx_blind, z_recv hK hP (ci := 4) rfl rfl (z_right hrecv), z_prePX (cx := ([] : va_W)) hK hN hT hS hA hP hD [] rfl (by decide)⟩ rfl rfl hl.1 rfl (lv_room (Nat.le_of_ble_eq_true rfl)) dL_diff_5 ⟨Nat.le_of_ble_eq_true rfl, Nat.le_of_ble_eq_true rfl⟩) (fun E ce q9 w1 H locs hw hjn hS hce hcv hcl => ?_) (fun r w1 H locs hw hjn hS => ?_)
  · obtain ⟨hP, hD⟩ := hjn w1 [] (List.append_nil w1).symm
    rw [List.append_nil] at hP hD
    have hP : va_P (dC, dI) vwCl (([(ao, .inl (cJ, 1, .inr (.inl ob)))] : va_W) ++ w1) H := hP
    have hD : va_D A (([(ao, .inl (cJ, 1, .inr (.inl ob)))] : va_W) ++ w1) := hD
    rcases hpe E w1 hw with rfl | rfl
    · refine vx_catch (own := RL) (name := "java/lang/IndexOutOfBoundsException") hown [] ⟨0, 10, 13, 13⟩ [⟨0, 10, 17, 18⟩] htab (fun z hz9 => absurd hz9 List.not_mem_nil) (by decide) (by decide) (hz _ zw_204) (hN.use _ zn_215) hce hcv hcl ?_
      refine lv_astore (lv' := [(4, .ref q9), (0, .ref x), (1, .int a0), (2, .int a1), (3, .ref ao)]) hx hb dL_diff_13 hl (by decide) rfl (fun ls hl => ?_)
      refine lv_iconst (v := nI 1) hx hb dL_diff_15 (by decide) ?_
      refine W.widen (k := 3) (n := 18) (Nat.le_of_ble_eq_true rfl) (Nat.le_of_ble_eq_true rfl) ?_
      exact hret H locs _ (([(ao, .inl (cJ, 1, .inr (.inl ob)))] : va_W) ++ w1) _ ls hP hD hS dL_diff_16 (Or.inr ⟨_, w1, hw, (Or.inl ⟨rfl, rfl⟩), rfl⟩)
    · refine vx_catch (own := RL) (name := "java/lang/IllegalStateException") hown [⟨0, 10, 13, 13⟩] ⟨0, 10, 17, 18⟩ [] htab (fun z hz9 => by rw [List.mem_singleton.mp hz9]; exact (Or.inr ⟨by decide, _, (hz _ zw_204), hNc.1⟩)) (by decide) (by decide) (hz _ zw_285) (hN.use _ zn_331) hce hcv hcl ?_
      refine lv_astore (lv' := [(4, .ref q9), (0, .ref x), (1, .int a0), (2, .int a1), (3, .ref ao)]) hx hb dL_diff_17 hl (by decide) rfl (fun ls hl => ?_)
      refine lv_iconst (v := nI 2) hx hb dL_diff_19 (by decide) ?_
      refine W.widen (k := 3) (n := 18) (Nat.le_of_ble_eq_true rfl) (Nat.le_of_ble_eq_true rfl) ?_
      exact hret H locs _ (([(ao, .inl (cJ, 1, .inr (.inl ob)))] : va_W) ++ w1) _ ls hP hD hS dL_diff_20 (Or.inr ⟨_, w1, hw, Or.inr ⟨rfl, rfl⟩, rfl⟩)
  · obtain ⟨hP, hD⟩ := hjn w1 [] (List.append_nil w1).symm
    rw [List.append_nil] at hP hD
    have hP : va_P (dC, dI) vwCl (([(ao, .inl (cJ, 1, .inr (.inl ob)))] : va_W) ++ w1) H := hP
    have hD : va_D A (([(ao, .inl (cJ, 1, .inr (.inl ob)))] : va_W) ++ w1) := hD
    refine lv_i2l (v := r.toInt64) hx hb dL_diff_8 rfl ?_
    refine z_last hx hb hK hP hD hS 0 1 rfl rfl (k := 0) (by omega) (by omega) dL_diff_9 (fun H locs hP hD hS => ?_)
    have hP : va_P (dC, dI) vwCl (([(ao, .inl (cJ, 1, .inr (.inl (vp_updL ob 0 r.toInt64))))] : va_W) ++ w1) H := hP
    have hD : va_D A (([(ao, .inl (cJ, 1, .inr (.inl (vp_updL ob 0 r.toInt64))))] : va_W) ++ w1) := hD
    refine lv_goto (tgt := 21) hx hb dL_diff_10 (by decide) ?_
    refine lv_iconst (v := nI 0) hx hb dL_diff_21 (by decide) ?_
    refine W.widen (k := 3) (n := 18) (Nat.le_of_ble_eq_true rfl) (Nat.le_of_ble_eq_true rfl) ?_
    exact hret H locs _ (([(ao, .inl (cJ, 1, .inr (.inl (vp_updL ob 0 r.toInt64))))] : va_W) ++ w1) _ ls hP hD hS dL_diff_22 (Or.inl ⟨rfl, r, w1, hw, rfl⟩)

abbrev rm_L_step : Room := { frames := 7, cells := 1, slots := 6, locals := 112 }
set_option maxHeartbeats 4000000 in
set_option maxRecDepth 100000 in
theorem h_step (l : Launch) (dC : Nat → ClassId) (dI : Nat → Nat → Nat) (cI cJ cR : ClassId) (x ao : Nat) (a0 a1 : Int32) (ob : Nat → Int64) (Tw : va_W) (fs0 : List Value) (post : Int32 → va_W → Prop) (pe : String → va_W → Prop) (hrecv : Tw[0]? = some (x, .inr (4, fs0))) (hcal : zIX l (dC, dI) vwCl (zT cI cJ cR) zNW yX4_step wsX4_step rm_X4_step [.ref x, .int a0, .int a1] Tw post pe) (hpe : ∀ E w, pe E w → E = "java/lang/IndexOutOfBoundsException" ∨ E = "java/lang/IllegalArgumentException") : zIH l (dC, dI) vwCl (zT cI cJ cR) zNW yL_step wsL_step rm_L_step [.ref x, .int a0, .int a1, .ref ao] (([(ao, .inl (cJ, 1, .inr (.inl ob)))] : va_W) ++ Tw) (fun z w => (z = nI 0 ∧ ∃ (r : Int32) (w1 : va_W), post r w1 ∧ w = (([(ao, .inl (cJ, 1, .inr (.inl (vp_updL ob 0 r.toInt64))))] : va_W) ++ w1)) ∨ (∃ (E : String) (w1 : va_W), pe E w1 ∧ ((E = "java/lang/IndexOutOfBoundsException" ∧ z = nI 1) ∨ (E = "java/lang/IllegalArgumentException" ∧ z = nI 2)) ∧ w = (([(ao, .inl (cJ, 1, .inr (.inl ob)))] : va_W) ++ w1))) := by
  refine z_ofIH (cc := cL_step) (maxL := 5) (hh := [(0, 10, 13, 13), (0, 10, 17, 23)]) (by decide) rfl (Nat.le_of_ble_eq_true rfl) ?_
  intro p e s m args below meth c A Q ls hI hT hNc htab hret
  obtain ⟨hx, hb, hml, hown, hts, hnm, hA, hK, hN, hP, hD, hS, hl⟩ := hI
  have hown : s.vm.findClass RL = some m.cls := hown
  have hl : lv_has ls 5 [(0, .ref x), (1, .int a0), (2, .int a1), (3, .ref ao)] := hl
  have hP : va_P (dC, dI) vwCl (([(ao, .inl (cJ, 1, .inr (.inl ob)))] : va_W) ++ Tw) s.heap := hP
  have hD : va_D A (([(ao, .inl (cJ, 1, .inr (.inl ob)))] : va_W) ++ Tw) := hD
  have hz : ∀ w ∈ zW, w.before args s = true := fun w h => hts w (List.mem_cons_of_mem _ h)
  refine lv_aload_n hx hb dL_step_0 rfl (lv_at hl 3 rfl) ?_
  refine lv_iconst (v := nI 0) hx hb dL_step_1 (by decide) ?_
  refine lv_aload_n hx hb dL_step_2 rfl (lv_at hl 0 rfl) ?_
  refine lv_iload_n hx hb dL_step_3 rfl (lv_at hl 1 rfl) ?_
  refine lv_iload_n hx hb dL_step_4 rfl (lv_at hl 2 rfl) ?_
  refine z_ciPX (cx := ([] : va_W)) (wr := ([(ao, .inl (cJ, 1, .inr (.inl ob)))] : va_W)) (T := Tw) hP hD hS hA [] [0] rfl rfl (by decide) (by decide) (vx_runV (As := [.int a0, .int a1]) (rest := [.int (nI 0), .ref ao]) ⟨hx, hb, hml, hown, hz⟩ (hcal s.heap.size) (cwV 2 hz (zgV zw_349 zw_350 zw_351 zw_22 zw_352) rfl rfl rfl (by decide +kernel) ⟨Nat.le_of_ble_eq_true rfl, Nat.le_of_ble_eq_true rfl⟩) ⟨zPx_blind, z_recv hK hP (ci := 4) rfl rfl (z_right hrecv), z_prePX (cx := ([] : va_W)) hK hN hT hS hA hP hD [] rfl (by decide)⟩ rfl rfl hl.1 rfl (lv_room (Nat.le_of_ble_eq_true rfl)) dL_step_5 ⟨Nat.le_of_ble_eq_true rfl, Nat.le_of_ble_eq_true rfl⟩) (fun E ce q9 w1 H locs hw hjn hS hce hcv hcl => ?_) (fun r w1 H locs hw hjn hS => ?_)
  · obtain ⟨hP, hD⟩ := hjn w1 [] (List.append_nil w1).symm
    rw [List.append_nil] at hP hD
    have hP : va_P (dC, dI) vwCl (([(ao, .inl (cJ, 1, .inr (.inl ob)))] : va_W) ++ w1) H := hP
    have hD : va_D A (([(ao, .inl (cJ, 1, .inr (.inl ob)))] : va_W) ++ w1) := hD
    rcases hpe E w1 hw with rfl | rfl
    · refine vx_catch (own := RL) (name := "java/lang/IndexOutOfBoundsException") hown [] ⟨0, 10, 13, 13⟩ [⟨0, 10, 17, 23⟩] htab (fun z hz9 => absurd hz9 List.not_mem_nil) (by decide) (by decide) (hz _ zw_204) (hN.use _ zn_215) hce hcv hcl ?_
      refine lv_astore (lv' := [(4, .ref q9), (0, .ref x), (1, .int a0), (2, .int a1), (3, .ref ao)]) hx hb dL_step_13 hl (by decide) rfl (fun ls hl => ?_)
      refine lv_iconst (v := nI 1) hx hb dL_step_15 (by decide) ?_
      refine W.widen (k := 1) (n := 6) (Nat.le_of_ble_eq_true rfl) (Nat.le_of_ble_eq_true rfl) ?_
      exact hret H locs _ (([(ao, .inl (cJ, 1, .inr (.inl ob)))] : va_W) ++ w1) _ ls hP hD hS dL_step_16 (Or.inr ⟨_, w1, hw, (Or.inl ⟨rfl, rfl⟩), rfl⟩)
    · refine vx_catch (own := RL) (name := "java/lang/IllegalArgumentException") hown [⟨0, 10, 13, 13⟩] ⟨0, 10, 17, 23⟩ [] htab (fun z hz9 => by rw [List.mem_singleton.mp hz9]; exact (Or.inr ⟨by decide, _, (hz _ zw_204), hNc.2.1⟩)) (by decide) (by decide) (hz _ zw_348) (hN.use _ zn_356) hce hcv hcl ?_
      refine lv_astore (lv' := [(4, .ref q9), (0, .ref x), (1, .int a0), (2, .int a1), (3, .ref ao)]) hx hb dL_step_17 hl (by decide) rfl (fun ls hl => ?_)
      refine lv_iconst (v := nI 2) hx hb dL_step_19 (by decide) ?_
      refine W.widen (k := 1) (n := 6) (Nat.le_of_ble_eq_true rfl) (Nat.le_of_ble_eq_true rfl) ?_
      exact hret H locs _ (([(ao, .inl (cJ, 1, .inr (.inl ob)))] : va_W) ++ w1) _ ls hP hD hS dL_step_20 (Or.inr ⟨_, w1, hw, Or.inr ⟨rfl, rfl⟩, rfl⟩)
  · obtain ⟨hP, hD⟩ := hjn w1 [] (List.append_nil w1).symm
    rw [List.append_nil] at hP hD
    have hP : va_P (dC, dI) vwCl (([(ao, .inl (cJ, 1, .inr (.inl ob)))] : va_W) ++ w1) H := hP
    have hD : va_D A (([(ao, .inl (cJ, 1, .inr (.inl ob)))] : va_W) ++ w1) := hD
    refine lv_i2l (v := r.toInt64) hx hb dL_step_8 rfl ?_
    refine z_last hx hb hK hP hD hS 0 1 rfl rfl (k := 0) (by omega) (by omega) dL_step_9 (fun H locs hP hD hS => ?_)
    have hP : va_P (dC, dI) vwCl (([(ao, .inl (cJ, 1, .inr (.inl (vp_updL ob 0 r.toInt64))))] : va_W) ++ w1) H := hP
    have hD : va_D A (([(ao, .inl (cJ, 1, .inr (.inl (vp_updL ob 0 r.toInt64))))] : va_W) ++ w1) := hD
    refine lv_goto (tgt := 21) hx hb dL_step_10 (by decide) ?_
    refine lv_iconst (v := nI 0) hx hb dL_step_21 (by decide) ?_
    refine W.widen (k := 1) (n := 6) (Nat.le_of_ble_eq_true rfl) (Nat.le_of_ble_eq_true rfl) ?_
    exact hret H locs _ (([(ao, .inl (cJ, 1, .inr (.inl (vp_updL ob 0 r.toInt64))))] : va_W) ++ w1) _ ls hP hD hS dL_step_22 (Or.inl ⟨rfl, r, w1, hw, rfl⟩)

abbrev rm_L_hunk : Room := { frames := 7, cells := 1, slots := 6, locals := 113 }
set_option maxHeartbeats 4000000 in
set_option maxRecDepth 100000 in
theorem h_hunk (l : Launch) (dC : Nat → ClassId) (dI : Nat → Nat → Nat) (cI cJ cR : ClassId) (x ao : Nat) (a0 a1 : Int32) (ob : Nat → Int64) (Tw : va_W) (fs0 : List Value) (post : Int32 → va_W → Prop) (pe : String → va_W → Prop) (hrecv : Tw[0]? = some (x, .inr (4, fs0))) (hcal : zIX l (dC, dI) vwCl (zT cI cJ cR) zNW yX4_hunk wsX4_hunk rm_X4_hunk [.ref x, .int a0, .int a1] Tw post pe) (hpe : ∀ E w, pe E w → E = "java/lang/IndexOutOfBoundsException" ∨ E = "java/lang/IllegalArgumentException") : zIH l (dC, dI) vwCl (zT cI cJ cR) zNW yL_hunk wsL_hunk rm_L_hunk [.ref x, .int a0, .int a1, .ref ao] (([(ao, .inl (cJ, 1, .inr (.inl ob)))] : va_W) ++ Tw) (fun z w => (z = nI 0 ∧ ∃ (r : Int32) (w1 : va_W), post r w1 ∧ w = (([(ao, .inl (cJ, 1, .inr (.inl (vp_updL ob 0 r.toInt64))))] : va_W) ++ w1)) ∨ (∃ (E : String) (w1 : va_W), pe E w1 ∧ ((E = "java/lang/IndexOutOfBoundsException" ∧ z = nI 1) ∨ (E = "java/lang/IllegalArgumentException" ∧ z = nI 2)) ∧ w = (([(ao, .inl (cJ, 1, .inr (.inl ob)))] : va_W) ++ w1))) := by
  refine z_ofIH (cc := cL_hunk) (maxL := 5) (hh := [(0, 10, 13, 13), (0, 10, 17, 23)]) (by decide) rfl (Nat.le_of_ble_eq_true rfl) ?_
  intro p e s m args below meth c A Q ls hI hT hNc htab hret
  obtain ⟨hx, hb, hml, hown, hts, hnm, hA, hK, hN, hP, hD, hS, hl⟩ := hI
  have hown : s.vm.findClass RL = some m.cls := hown
  have hl : lv_has ls 5 [(0, .ref x), (1, .int a0), (2, .int a1), (3, .ref ao)] := hl
  have hP : va_P (dC, dI) vwCl (([(ao, .inl (cJ, 1, .inr (.inl ob)))] : va_W) ++ Tw) s.heap := hP
  have hD : va_D A (([(ao, .inl (cJ, 1, .inr (.inl ob)))] : va_W) ++ Tw) := hD
  have hz : ∀ w ∈ zW, w.before args s = true := fun w h => hts w (List.mem_cons_of_mem _ h)
  refine lv_aload_n hx hb dL_hunk_0 rfl (lv_at hl 3 rfl) ?_
  refine lv_iconst (v := nI 0) hx hb dL_hunk_1 (by decide) ?_
  refine lv_aload_n hx hb dL_hunk_2 rfl (lv_at hl 0 rfl) ?_
  refine lv_iload_n hx hb dL_hunk_3 rfl (lv_at hl 1 rfl) ?_
  refine lv_iload_n hx hb dL_hunk_4 rfl (lv_at hl 2 rfl) ?_
  refine z_ciPX (cx := ([] : va_W)) (wr := ([(ao, .inl (cJ, 1, .inr (.inl ob)))] : va_W)) (T := Tw) hP hD hS hA [] [0] rfl rfl (by decide) (by decide) (vx_runV (As := [.int a0, .int a1]) (rest := [.int (nI 0), .ref ao]) ⟨hx, hb, hml, hown, hz⟩ (hcal s.heap.size) (cwV 2 hz (zgV zw_373 zw_374 zw_375 zw_22 zw_376) rfl rfl rfl (by decide +kernel) ⟨Nat.le_of_ble_eq_true rfl, Nat.le_of_ble_eq_true rfl⟩) ⟨zPx_blind, z_recv hK hP (ci := 4) rfl rfl (z_right hrecv), z_prePX (cx := ([] : va_W)) hK hN hT hS hA hP hD [] rfl (by decide)⟩ rfl rfl hl.1 rfl (lv_room (Nat.le_of_ble_eq_true rfl)) dL_hunk_5 ⟨Nat.le_of_ble_eq_true rfl, Nat.le_of_ble_eq_true rfl⟩) (fun E ce q9 w1 H locs hw hjn hS hce hcv hcl => ?_) (fun r w1 H locs hw hjn hS => ?_)
  · obtain ⟨hP, hD⟩ := hjn w1 [] (List.append_nil w1).symm
    rw [List.append_nil] at hP hD
    have hP : va_P (dC, dI) vwCl (([(ao, .inl (cJ, 1, .inr (.inl ob)))] : va_W) ++ w1) H := hP
    have hD : va_D A (([(ao, .inl (cJ, 1, .inr (.inl ob)))] : va_W) ++ w1) := hD
    rcases hpe E w1 hw with rfl | rfl
    · refine vx_catch (own := RL) (name := "java/lang/IndexOutOfBoundsException") hown [] ⟨0, 10, 13, 13⟩ [⟨0, 10, 17, 23⟩] htab (fun z hz9 => absurd hz9 List.not_mem_nil) (by decide) (by decide) (hz _ zw_204) (hN.use _ zn_215) hce hcv hcl ?_
      refine lv_astore (lv' := [(4, .ref q9), (0, .ref x), (1, .int a0), (2, .int a1), (3, .ref ao)]) hx hb dL_hunk_13 hl (by decide) rfl (fun ls hl => ?_)
      refine lv_iconst (v := nI 1) hx hb dL_hunk_15 (by decide) ?_
      refine W.widen (k := 1) (n := 6) (Nat.le_of_ble_eq_true rfl) (Nat.le_of_ble_eq_true rfl) ?_
      exact hret H locs _ (([(ao, .inl (cJ, 1, .inr (.inl ob)))] : va_W) ++ w1) _ ls hP hD hS dL_hunk_16 (Or.inr ⟨_, w1, hw, (Or.inl ⟨rfl, rfl⟩), rfl⟩)
    · refine vx_catch (own := RL) (name := "java/lang/IllegalArgumentException") hown [⟨0, 10, 13, 13⟩] ⟨0, 10, 17, 23⟩ [] htab (fun z hz9 => by rw [List.mem_singleton.mp hz9]; exact (Or.inr ⟨by decide, _, (hz _ zw_204), hNc.2.1⟩)) (by decide) (by decide) (hz _ zw_348) (hN.use _ zn_356) hce hcv hcl ?_
      refine lv_astore (lv' := [(4, .ref q9), (0, .ref x), (1, .int a0), (2, .int a1), (3, .ref ao)]) hx hb dL_hunk_17 hl (by decide) rfl (fun ls hl => ?_)
      refine lv_iconst (v := nI 2) hx hb dL_hunk_19 (by decide) ?_
      refine W.widen (k := 1) (n := 6) (Nat.le_of_ble_eq_true rfl) (Nat.le_of_ble_eq_true rfl) ?_
      exact hret H locs _ (([(ao, .inl (cJ, 1, .inr (.inl ob)))] : va_W) ++ w1) _ ls hP hD hS dL_hunk_20 (Or.inr ⟨_, w1, hw, Or.inr ⟨rfl, rfl⟩, rfl⟩)
  · obtain ⟨hP, hD⟩ := hjn w1 [] (List.append_nil w1).symm
    rw [List.append_nil] at hP hD
    have hP : va_P (dC, dI) vwCl (([(ao, .inl (cJ, 1, .inr (.inl ob)))] : va_W) ++ w1) H := hP
    have hD : va_D A (([(ao, .inl (cJ, 1, .inr (.inl ob)))] : va_W) ++ w1) := hD
    refine lv_i2l (v := r.toInt64) hx hb dL_hunk_8 rfl ?_
    refine z_last hx hb hK hP hD hS 0 1 rfl rfl (k := 0) (by omega) (by omega) dL_hunk_9 (fun H locs hP hD hS => ?_)
    have hP : va_P (dC, dI) vwCl (([(ao, .inl (cJ, 1, .inr (.inl (vp_updL ob 0 r.toInt64))))] : va_W) ++ w1) H := hP
    have hD : va_D A (([(ao, .inl (cJ, 1, .inr (.inl (vp_updL ob 0 r.toInt64))))] : va_W) ++ w1) := hD
    refine lv_goto (tgt := 21) hx hb dL_hunk_10 (by decide) ?_
    refine lv_iconst (v := nI 0) hx hb dL_hunk_21 (by decide) ?_
    refine W.widen (k := 1) (n := 6) (Nat.le_of_ble_eq_true rfl) (Nat.le_of_ble_eq_true rfl) ?_
    exact hret H locs _ (([(ao, .inl (cJ, 1, .inr (.inl (vp_updL ob 0 r.toInt64))))] : va_W) ++ w1) _ ls hP hD hS dL_hunk_22 (Or.inl ⟨rfl, r, w1, hw, rfl⟩)

abbrev rm_L_apply : Room := { frames := 8, cells := 3, slots := 18, locals := 138 }
set_option maxHeartbeats 4000000 in
set_option maxRecDepth 100000 in
theorem h_apply (l : Launch) (dC : Nat → ClassId) (dI : Nat → Nat → Nat) (cI cJ cR : ClassId) (x ao : Nat) (a0 a1 a2 : Int32) (ob : Nat → Int64) (Tw : va_W) (fs0 : List Value) (post : Int32 → va_W → Prop) (pe : String → va_W → Prop) (hrecv : Tw[0]? = some (x, .inr (4, fs0))) (hcal : zIX l (dC, dI) vwCl (zT cI cJ cR) zNW yX4_apply wsX4_apply rm_X4_apply [.ref x, .int a0, .int a1, .int a2] Tw post pe) (hpe : ∀ E w, pe E w → E = "java/lang/IndexOutOfBoundsException" ∨ E = "java/lang/IllegalStateException") : zIH l (dC, dI) vwCl (zT cI cJ cR) zNW yL_apply wsL_apply rm_L_apply [.ref x, .int a0, .int a1, .int a2, .ref ao] (([(ao, .inl (cJ, 1, .inr (.inl ob)))] : va_W) ++ Tw) (fun z w => (z = nI 0 ∧ ∃ (r : Int32) (w1 : va_W), post r w1 ∧ w = (([(ao, .inl (cJ, 1, .inr (.inl (vp_updL ob 0 r.toInt64))))] : va_W) ++ w1)) ∨ (∃ (E : String) (w1 : va_W), pe E w1 ∧ ((E = "java/lang/IndexOutOfBoundsException" ∧ z = nI 1) ∨ (E = "java/lang/IllegalStateException" ∧ z = nI 2)) ∧ w = (([(ao, .inl (cJ, 1, .inr (.inl ob)))] : va_W) ++ w1))) := by
  refine z_ofIH (cc := cL_apply) (maxL := 6) (hh := [(0, 12, 15, 13), (0, 12, 19, 18)]) (by decide) rfl (Nat.le_of_ble_eq_true rfl) ?_
  intro p e s m args below meth c A Q ls hI hT hNc htab hret
  obtain ⟨hx, hb, hml, hown, hts, hnm, hA, hK, hN, hP, hD, hS, hl⟩ := hI
  have hown : s.vm.findClass RL = some m.cls := hown
  have hl : lv_has ls 6 [(0, .ref x), (1, .int a0), (2, .int a1), (3, .int a2), (4, .ref ao)] := hl
  have hP : va_P (dC, dI) vwCl (([(ao, .inl (cJ, 1, .inr (.inl ob)))] : va_W) ++ Tw) s.heap := hP
  have hD : va_D A (([(ao, .inl (cJ, 1, .inr (.inl ob)))] : va_W) ++ Tw) := hD
  have hz : ∀ w ∈ zW, w.before args s = true := fun w h => hts w (List.mem_cons_of_mem _ h)
  refine lv_aload hx hb dL_apply_0 (lv_at hl 4 rfl) ?_
  refine lv_iconst (v := nI 0) hx hb dL_apply_2 (by decide) ?_
  refine lv_aload_n hx hb dL_apply_3 rfl (lv_at hl 0 rfl) ?_
  refine lv_iload_n hx hb dL_apply_4 rfl (lv_at hl 1 rfl) ?_
  refine lv_iload_n hx hb dL_apply_5 rfl (lv_at hl 2 rfl) ?_
  refine lv_iload_n hx hb dL_apply_6 rfl (lv_at hl 3 rfl) ?_
  refine z_ciPX (cx := ([] : va_W)) (wr := ([(ao, .inl (cJ, 1, .inr (.inl ob)))] : va_W)) (T := Tw) hP hD hS hA [] [0] rfl rfl (by decide) (by decide) (vx_runV (As := [.int a0, .int a1, .int a2]) (rest := [.int (nI 0), .ref ao]) ⟨hx, hb, hml, hown, hz⟩ (hcal s.heap.size) (cwV 3 hz (zgV zw_390 zw_391 zw_392 zw_22 zw_393) rfl rfl rfl (by decide +kernel) ⟨Nat.le_of_ble_eq_true rfl, Nat.le_of_ble_eq_true rfl⟩) ⟨zPx_blind, z_recv hK hP (ci := 4) rfl rfl (z_right hrecv), z_prePX (cx := ([] : va_W)) hK hN hT hS hA hP hD [] rfl (by decide)⟩ rfl rfl hl.1 rfl (lv_room (Nat.le_of_ble_eq_true rfl)) dL_apply_7 ⟨Nat.le_of_ble_eq_true rfl, Nat.le_of_ble_eq_true rfl⟩) (fun E ce q9 w1 H locs hw hjn hS hce hcv hcl => ?_) (fun r w1 H locs hw hjn hS => ?_)
  · obtain ⟨hP, hD⟩ := hjn w1 [] (List.append_nil w1).symm
    rw [List.append_nil] at hP hD
    have hP : va_P (dC, dI) vwCl (([(ao, .inl (cJ, 1, .inr (.inl ob)))] : va_W) ++ w1) H := hP
    have hD : va_D A (([(ao, .inl (cJ, 1, .inr (.inl ob)))] : va_W) ++ w1) := hD
    rcases hpe E w1 hw with rfl | rfl
    · refine vx_catch (own := RL) (name := "java/lang/IndexOutOfBoundsException") hown [] ⟨0, 12, 15, 13⟩ [⟨0, 12, 19, 18⟩] htab (fun z hz9 => absurd hz9 List.not_mem_nil) (by decide) (by decide) (hz _ zw_204) (hN.use _ zn_215) hce hcv hcl ?_
      refine lv_astore (lv' := [(5, .ref q9), (0, .ref x), (1, .int a0), (2, .int a1), (3, .int a2), (4, .ref ao)]) hx hb dL_apply_15 hl (by decide) rfl (fun ls hl => ?_)
      refine lv_iconst (v := nI 1) hx hb dL_apply_17 (by decide) ?_
      refine W.widen (k := 3) (n := 18) (Nat.le_of_ble_eq_true rfl) (Nat.le_of_ble_eq_true rfl) ?_
      exact hret H locs _ (([(ao, .inl (cJ, 1, .inr (.inl ob)))] : va_W) ++ w1) _ ls hP hD hS dL_apply_18 (Or.inr ⟨_, w1, hw, (Or.inl ⟨rfl, rfl⟩), rfl⟩)
    · refine vx_catch (own := RL) (name := "java/lang/IllegalStateException") hown [⟨0, 12, 15, 13⟩] ⟨0, 12, 19, 18⟩ [] htab (fun z hz9 => by rw [List.mem_singleton.mp hz9]; exact (Or.inr ⟨by decide, _, (hz _ zw_204), hNc.1⟩)) (by decide) (by decide) (hz _ zw_285) (hN.use _ zn_331) hce hcv hcl ?_
      refine lv_astore (lv' := [(5, .ref q9), (0, .ref x), (1, .int a0), (2, .int a1), (3, .int a2), (4, .ref ao)]) hx hb dL_apply_19 hl (by decide) rfl (fun ls hl => ?_)
      refine lv_iconst (v := nI 2) hx hb dL_apply_21 (by decide) ?_
      refine W.widen (k := 3) (n := 18) (Nat.le_of_ble_eq_true rfl) (Nat.le_of_ble_eq_true rfl) ?_
      exact hret H locs _ (([(ao, .inl (cJ, 1, .inr (.inl ob)))] : va_W) ++ w1) _ ls hP hD hS dL_apply_22 (Or.inr ⟨_, w1, hw, Or.inr ⟨rfl, rfl⟩, rfl⟩)
  · obtain ⟨hP, hD⟩ := hjn w1 [] (List.append_nil w1).symm
    rw [List.append_nil] at hP hD
    have hP : va_P (dC, dI) vwCl (([(ao, .inl (cJ, 1, .inr (.inl ob)))] : va_W) ++ w1) H := hP
    have hD : va_D A (([(ao, .inl (cJ, 1, .inr (.inl ob)))] : va_W) ++ w1) := hD
    refine lv_i2l (v := r.toInt64) hx hb dL_apply_10 rfl ?_
    refine z_last hx hb hK hP hD hS 0 1 rfl rfl (k := 0) (by omega) (by omega) dL_apply_11 (fun H locs hP hD hS => ?_)
    have hP : va_P (dC, dI) vwCl (([(ao, .inl (cJ, 1, .inr (.inl (vp_updL ob 0 r.toInt64))))] : va_W) ++ w1) H := hP
    have hD : va_D A (([(ao, .inl (cJ, 1, .inr (.inl (vp_updL ob 0 r.toInt64))))] : va_W) ++ w1) := hD
    refine lv_goto (tgt := 23) hx hb dL_apply_12 (by decide) ?_
    refine lv_iconst (v := nI 0) hx hb dL_apply_23 (by decide) ?_
    refine W.widen (k := 3) (n := 18) (Nat.le_of_ble_eq_true rfl) (Nat.le_of_ble_eq_true rfl) ?_
    exact hret H locs _ (([(ao, .inl (cJ, 1, .inr (.inl (vp_updL ob 0 r.toInt64))))] : va_W) ++ w1) _ ls hP hD hS dL_apply_24 (Or.inl ⟨rfl, r, w1, hw, rfl⟩)

abbrev rm_L_merge : Room := { frames := 8, cells := 4, slots := 24, locals := 147 }
set_option maxHeartbeats 4000000 in
set_option maxRecDepth 100000 in
theorem h_merge (l : Launch) (dC : Nat → ClassId) (dI : Nat → Nat → Nat) (cI cJ cR : ClassId) (x ao : Nat) (a0 a1 a2 : Int32) (ob : Nat → Int64) (Tw : va_W) (fs0 : List Value) (post : Int32 → va_W → Prop) (pe : String → va_W → Prop) (hrecv : Tw[0]? = some (x, .inr (4, fs0))) (hcal : zIX l (dC, dI) vwCl (zT cI cJ cR) zNW yX4_merge wsX4_merge rm_X4_merge [.ref x, .int a0, .int a1, .int a2] Tw post pe) (hpe : ∀ E w, pe E w → E = "java/lang/IndexOutOfBoundsException" ∨ E = "java/lang/IllegalStateException") : zIH l (dC, dI) vwCl (zT cI cJ cR) zNW yL_merge wsL_merge rm_L_merge [.ref x, .int a0, .int a1, .int a2, .ref ao] (([(ao, .inl (cJ, 1, .inr (.inl ob)))] : va_W) ++ Tw) (fun z w => (z = nI 0 ∧ ∃ (r : Int32) (w1 : va_W), post r w1 ∧ w = (([(ao, .inl (cJ, 1, .inr (.inl (vp_updL ob 0 r.toInt64))))] : va_W) ++ w1)) ∨ (∃ (E : String) (w1 : va_W), pe E w1 ∧ ((E = "java/lang/IndexOutOfBoundsException" ∧ z = nI 1) ∨ (E = "java/lang/IllegalStateException" ∧ z = nI 2)) ∧ w = (([(ao, .inl (cJ, 1, .inr (.inl ob)))] : va_W) ++ w1))) := by
  refine z_ofIH (cc := cL_merge) (maxL := 6) (hh := [(0, 12, 15, 13), (0, 12, 19, 18)]) (by decide) rfl (Nat.le_of_ble_eq_true rfl) ?_
  intro p e s m args below meth c A Q ls hI hT hNc htab hret
  obtain ⟨hx, hb, hml, hown, hts, hnm, hA, hK, hN, hP, hD, hS, hl⟩ := hI
  have hown : s.vm.findClass RL = some m.cls := hown
  have hl : lv_has ls 6 [(0, .ref x), (1, .int a0), (2, .int a1), (3, .int a2), (4, .ref ao)] := hl
  have hP : va_P (dC, dI) vwCl (([(ao, .inl (cJ, 1, .inr (.inl ob)))] : va_W) ++ Tw) s.heap := hP
  have hD : va_D A (([(ao, .inl (cJ, 1, .inr (.inl ob)))] : va_W) ++ Tw) := hD
  have hz : ∀ w ∈ zW, w.before args s = true := fun w h => hts w (List.mem_cons_of_mem _ h)
  refine lv_aload hx hb dL_merge_0 (lv_at hl 4 rfl) ?_
  refine lv_iconst (v := nI 0) hx hb dL_merge_2 (by decide) ?_
  refine lv_aload_n hx hb dL_merge_3 rfl (lv_at hl 0 rfl) ?_
  refine lv_iload_n hx hb dL_merge_4 rfl (lv_at hl 1 rfl) ?_
  refine lv_iload_n hx hb dL_merge_5 rfl (lv_at hl 2 rfl) ?_
  refine lv_iload_n hx hb dL_merge_6 rfl (lv_at hl 3 rfl) ?_
  refine z_ciPX (cx := ([] : va_W)) (wr := ([(ao, .inl (cJ, 1, .inr (.inl ob)))] : va_W)) (T := Tw) hP hD hS hA [] [0] rfl rfl (by decide) (by decide) (vx_runV (As := [.int a0, .int a1, .int a2]) (rest := [.int (nI 0), .ref ao]) ⟨hx, hb, hml, hown, hz⟩ (hcal s.heap.size) (cwV 3 hz (zgV zw_409 zw_410 zw_411 zw_22 zw_412) rfl rfl rfl (by decide +kernel) ⟨Nat.le_of_ble_eq_true rfl, Nat.le_of_ble_eq_true rfl⟩) ⟨zPx_blind, z_recv hK hP (ci := 4) rfl rfl (z_right hrecv), z_prePX (cx := ([] : va_W)) hK hN hT hS hA hP hD [] rfl (by decide)⟩ rfl rfl hl.1 rfl (lv_room (Nat.le_of_ble_eq_true rfl)) dL_merge_7 ⟨Nat.le_of_ble_eq_true rfl, Nat.le_of_ble_eq_true rfl⟩) (fun E ce q9 w1 H locs hw hjn hS hce hcv hcl => ?_) (fun r w1 H locs hw hjn hS => ?_)
  · obtain ⟨hP, hD⟩ := hjn w1 [] (List.append_nil w1).symm
    rw [List.append_nil] at hP hD
    have hP : va_P (dC, dI) vwCl (([(ao, .inl (cJ, 1, .inr (.inl ob)))] : va_W) ++ w1) H := hP
    have hD : va_D A (([(ao, .inl (cJ, 1, .inr (.inl ob)))] : va_W) ++ w1) := hD
    rcases hpe E w1 hw with rfl | rfl
    · refine vx_catch (own := RL) (name := "java/lang/IndexOutOfBoundsException") hown [] ⟨0, 12, 15, 13⟩ [⟨0, 12, 19, 18⟩] htab (fun z hz9 => absurd hz9 List.not_mem_nil) (by decide) (by decide) (hz _ zw_204) (hN.use _ zn_215) hce hcv hcl ?_
      refine lv_astore (lv' := [(5, .ref q9), (0, .ref x), (1, .int a0), (2, .int a1), (3, .int a2), (4, .ref ao)]) hx hb dL_merge_15 hl (by decide) rfl (fun ls hl => ?_)
      refine lv_iconst (v := nI 1) hx hb dL_merge_17 (by decide) ?_
      refine W.widen (k := 4) (n := 24) (Nat.le_of_ble_eq_true rfl) (Nat.le_of_ble_eq_true rfl) ?_
      exact hret H locs _ (([(ao, .inl (cJ, 1, .inr (.inl ob)))] : va_W) ++ w1) _ ls hP hD hS dL_merge_18 (Or.inr ⟨_, w1, hw, (Or.inl ⟨rfl, rfl⟩), rfl⟩)
    · refine vx_catch (own := RL) (name := "java/lang/IllegalStateException") hown [⟨0, 12, 15, 13⟩] ⟨0, 12, 19, 18⟩ [] htab (fun z hz9 => by rw [List.mem_singleton.mp hz9]; exact (Or.inr ⟨by decide, _, (hz _ zw_204), hNc.1⟩)) (by decide) (by decide) (hz _ zw_285) (hN.use _ zn_331) hce hcv hcl ?_
      refine lv_astore (lv' := [(5, .ref q9), (0, .ref x), (1, .int a0), (2, .int a1), (3, .int a2), (4, .ref ao)]) hx hb dL_merge_19 hl (by decide) rfl (fun ls hl => ?_)
      refine lv_iconst (v := nI 2) hx hb dL_merge_21 (by decide) ?_
      refine W.widen (k := 4) (n := 24) (Nat.le_of_ble_eq_true rfl) (Nat.le_of_ble_eq_true rfl) ?_
      exact hret H locs _ (([(ao, .inl (cJ, 1, .inr (.inl ob)))] : va_W) ++ w1) _ ls hP hD hS dL_merge_22 (Or.inr ⟨_, w1, hw, Or.inr ⟨rfl, rfl⟩, rfl⟩)
  · obtain ⟨hP, hD⟩ := hjn w1 [] (List.append_nil w1).symm
    rw [List.append_nil] at hP hD
    have hP : va_P (dC, dI) vwCl (([(ao, .inl (cJ, 1, .inr (.inl ob)))] : va_W) ++ w1) H := hP
    have hD : va_D A (([(ao, .inl (cJ, 1, .inr (.inl ob)))] : va_W) ++ w1) := hD
    refine lv_i2l (v := r.toInt64) hx hb dL_merge_10 rfl ?_
    refine z_last hx hb hK hP hD hS 0 1 rfl rfl (k := 0) (by omega) (by omega) dL_merge_11 (fun H locs hP hD hS => ?_)
    have hP : va_P (dC, dI) vwCl (([(ao, .inl (cJ, 1, .inr (.inl (vp_updL ob 0 r.toInt64))))] : va_W) ++ w1) H := hP
    have hD : va_D A (([(ao, .inl (cJ, 1, .inr (.inl (vp_updL ob 0 r.toInt64))))] : va_W) ++ w1) := hD
    refine lv_goto (tgt := 23) hx hb dL_merge_12 (by decide) ?_
    refine lv_iconst (v := nI 0) hx hb dL_merge_23 (by decide) ?_
    refine W.widen (k := 4) (n := 24) (Nat.le_of_ble_eq_true rfl) (Nat.le_of_ble_eq_true rfl) ?_
    exact hret H locs _ (([(ao, .inl (cJ, 1, .inr (.inl (vp_updL ob 0 r.toInt64))))] : va_W) ++ w1) _ ls hP hD hS dL_merge_24 (Or.inl ⟨rfl, r, w1, hw, rfl⟩)

abbrev rm_L_entry : Room := { frames := 7, cells := 1, slots := 6, locals := 112 }
set_option maxHeartbeats 4000000 in
set_option maxRecDepth 100000 in
theorem h_entry (l : Launch) (dC : Nat → ClassId) (dI : Nat → Nat → Nat) (cI cJ cR : ClassId) (x ao : Nat) (a0 a1 : Int32) (ob : Nat → Int64) (Tw : va_W) (fs0 : List Value) (post : Int32 → va_W → Prop) (pe : String → va_W → Prop) (hrecv : Tw[0]? = some (x, .inr (4, fs0))) (hcal : zIX l (dC, dI) vwCl (zT cI cJ cR) zNW yX4_entry wsX4_entry rm_X4_entry [.ref x, .int a0, .int a1] Tw post pe) (hpe : ∀ E w, pe E w → E = "java/lang/IndexOutOfBoundsException" ∨ E = "java/lang/IllegalArgumentException") : zIH l (dC, dI) vwCl (zT cI cJ cR) zNW yL_entry wsL_entry rm_L_entry [.ref x, .int a0, .int a1, .ref ao] (([(ao, .inl (cJ, 1, .inr (.inl ob)))] : va_W) ++ Tw) (fun z w => (z = nI 0 ∧ ∃ (r : Int32) (w1 : va_W), post r w1 ∧ w = (([(ao, .inl (cJ, 1, .inr (.inl (vp_updL ob 0 r.toInt64))))] : va_W) ++ w1)) ∨ (∃ (E : String) (w1 : va_W), pe E w1 ∧ ((E = "java/lang/IndexOutOfBoundsException" ∧ z = nI 1) ∨ (E = "java/lang/IllegalArgumentException" ∧ z = nI 2)) ∧ w = (([(ao, .inl (cJ, 1, .inr (.inl ob)))] : va_W) ++ w1))) := by
  refine z_ofIH (cc := cL_entry) (maxL := 5) (hh := [(0, 10, 13, 13), (0, 10, 17, 23)]) (by decide) rfl (Nat.le_of_ble_eq_true rfl) ?_
  intro p e s m args below meth c A Q ls hI hT hNc htab hret
  obtain ⟨hx, hb, hml, hown, hts, hnm, hA, hK, hN, hP, hD, hS, hl⟩ := hI
  have hown : s.vm.findClass RL = some m.cls := hown
  have hl : lv_has ls 5 [(0, .ref x), (1, .int a0), (2, .int a1), (3, .ref ao)] := hl
  have hP : va_P (dC, dI) vwCl (([(ao, .inl (cJ, 1, .inr (.inl ob)))] : va_W) ++ Tw) s.heap := hP
  have hD : va_D A (([(ao, .inl (cJ, 1, .inr (.inl ob)))] : va_W) ++ Tw) := hD
  have hz : ∀ w ∈ zW, w.before args s = true := fun w h => hts w (List.mem_cons_of_mem _ h)
  refine lv_aload_n hx hb dL_entry_0 rfl (lv_at hl 3 rfl) ?_
  refine lv_iconst (v := nI 0) hx hb dL_entry_1 (by decide) ?_
  refine lv_aload_n hx hb dL_entry_2 rfl (lv_at hl 0 rfl) ?_
  refine lv_iload_n hx hb dL_entry_3 rfl (lv_at hl 1 rfl) ?_
  refine lv_iload_n hx hb dL_entry_4 rfl (lv_at hl 2 rfl) ?_
  refine z_ciPX (cx := ([] : va_W)) (wr := ([(ao, .inl (cJ, 1, .inr (.inl ob)))] : va_W)) (T := Tw) hP hD hS hA [] [0] rfl rfl (by decide) (by decide) (vx_runV (As := [.int a0, .int a1]) (rest := [.int (nI 0), .ref ao]) ⟨hx, hb, hml, hown, hz⟩ (hcal s.heap.size) (cwV 2 hz (zgV zw_442 zw_443 zw_444 zw_22 zw_445) rfl rfl rfl (by decide +kernel) ⟨Nat.le_of_ble_eq_true rfl, Nat.le_of_ble_eq_true rfl⟩) ⟨zPx_blind, z_recv hK hP (ci := 4) rfl rfl (z_right hrecv), z_prePX (cx := ([] : va_W)) hK hN hT hS hA hP hD [] rfl (by decide)⟩ rfl rfl hl.1 rfl (lv_room (Nat.le_of_ble_eq_true rfl)) dL_entry_5 ⟨Nat.le_of_ble_eq_true rfl, Nat.le_of_ble_eq_true rfl⟩) (fun E ce q9 w1 H locs hw hjn hS hce hcv hcl => ?_) (fun r w1 H locs hw hjn hS => ?_)
  · obtain ⟨hP, hD⟩ := hjn w1 [] (List.append_nil w1).symm
    rw [List.append_nil] at hP hD
    have hP : va_P (dC, dI) vwCl (([(ao, .inl (cJ, 1, .inr (.inl ob)))] : va_W) ++ w1) H := hP
    have hD : va_D A (([(ao, .inl (cJ, 1, .inr (.inl ob)))] : va_W) ++ w1) := hD
    rcases hpe E w1 hw with rfl | rfl
    · refine vx_catch (own := RL) (name := "java/lang/IndexOutOfBoundsException") hown [] ⟨0, 10, 13, 13⟩ [⟨0, 10, 17, 23⟩] htab (fun z hz9 => absurd hz9 List.not_mem_nil) (by decide) (by decide) (hz _ zw_204) (hN.use _ zn_215) hce hcv hcl ?_
      refine lv_astore (lv' := [(4, .ref q9), (0, .ref x), (1, .int a0), (2, .int a1), (3, .ref ao)]) hx hb dL_entry_13 hl (by decide) rfl (fun ls hl => ?_)
      refine lv_iconst (v := nI 1) hx hb dL_entry_15 (by decide) ?_
      refine W.widen (k := 1) (n := 6) (Nat.le_of_ble_eq_true rfl) (Nat.le_of_ble_eq_true rfl) ?_
      exact hret H locs _ (([(ao, .inl (cJ, 1, .inr (.inl ob)))] : va_W) ++ w1) _ ls hP hD hS dL_entry_16 (Or.inr ⟨_, w1, hw, (Or.inl ⟨rfl, rfl⟩), rfl⟩)
    · refine vx_catch (own := RL) (name := "java/lang/IllegalArgumentException") hown [⟨0, 10, 13, 13⟩] ⟨0, 10, 17, 23⟩ [] htab (fun z hz9 => by rw [List.mem_singleton.mp hz9]; exact (Or.inr ⟨by decide, _, (hz _ zw_204), hNc.2.1⟩)) (by decide) (by decide) (hz _ zw_348) (hN.use _ zn_356) hce hcv hcl ?_
      refine lv_astore (lv' := [(4, .ref q9), (0, .ref x), (1, .int a0), (2, .int a1), (3, .ref ao)]) hx hb dL_entry_17 hl (by decide) rfl (fun ls hl => ?_)
      refine lv_iconst (v := nI 2) hx hb dL_entry_19 (by decide) ?_
      refine W.widen (k := 1) (n := 6) (Nat.le_of_ble_eq_true rfl) (Nat.le_of_ble_eq_true rfl) ?_
      exact hret H locs _ (([(ao, .inl (cJ, 1, .inr (.inl ob)))] : va_W) ++ w1) _ ls hP hD hS dL_entry_20 (Or.inr ⟨_, w1, hw, Or.inr ⟨rfl, rfl⟩, rfl⟩)
  · obtain ⟨hP, hD⟩ := hjn w1 [] (List.append_nil w1).symm
    rw [List.append_nil] at hP hD
    have hP : va_P (dC, dI) vwCl (([(ao, .inl (cJ, 1, .inr (.inl ob)))] : va_W) ++ w1) H := hP
    have hD : va_D A (([(ao, .inl (cJ, 1, .inr (.inl ob)))] : va_W) ++ w1) := hD
    refine lv_i2l (v := r.toInt64) hx hb dL_entry_8 rfl ?_
    refine z_last hx hb hK hP hD hS 0 1 rfl rfl (k := 0) (by omega) (by omega) dL_entry_9 (fun H locs hP hD hS => ?_)
    have hP : va_P (dC, dI) vwCl (([(ao, .inl (cJ, 1, .inr (.inl (vp_updL ob 0 r.toInt64))))] : va_W) ++ w1) H := hP
    have hD : va_D A (([(ao, .inl (cJ, 1, .inr (.inl (vp_updL ob 0 r.toInt64))))] : va_W) ++ w1) := hD
    refine lv_goto (tgt := 21) hx hb dL_entry_10 (by decide) ?_
    refine lv_iconst (v := nI 0) hx hb dL_entry_21 (by decide) ?_
    refine W.widen (k := 1) (n := 6) (Nat.le_of_ble_eq_true rfl) (Nat.le_of_ble_eq_true rfl) ?_
    exact hret H locs _ (([(ao, .inl (cJ, 1, .inr (.inl (vp_updL ob 0 r.toInt64))))] : va_W) ++ w1) _ ls hP hD hS dL_entry_22 (Or.inl ⟨rfl, r, w1, hw, rfl⟩)

abbrev rm_L_see : Room := { frames := 8, cells := 2, slots := 12, locals := 134 }
set_option maxHeartbeats 4000000 in
set_option maxRecDepth 100000 in
theorem h_see (l : Launch) (dC : Nat → ClassId) (dI : Nat → Nat → Nat) (cI cJ cR : ClassId) (x ao : Nat) (a0 a1 : Int32) (ob : Nat → Int64) (Tw : va_W) (fs0 : List Value) (post : Int32 → va_W → Prop) (pe : String → va_W → Prop) (hrecv : Tw[0]? = some (x, .inr (4, fs0))) (hcal : zIX l (dC, dI) vwCl (zT cI cJ cR) zNW yX4_see wsX4_see rm_X4_see [.ref x, .int a0, .int a1] Tw post pe) (hpe : ∀ E w, pe E w → E = "java/lang/IndexOutOfBoundsException" ∨ E = "java/lang/IllegalArgumentException" ∨ E = "java/lang/IllegalStateException") : zIH l (dC, dI) vwCl (zT cI cJ cR) zNW yL_see wsL_see rm_L_see [.ref x, .int a0, .int a1, .ref ao] (([(ao, .inl (cJ, 1, .inr (.inl ob)))] : va_W) ++ Tw) (fun z w => (z = nI 0 ∧ ∃ (r : Int32) (w1 : va_W), post r w1 ∧ w = (([(ao, .inl (cJ, 1, .inr (.inl (vp_updL ob 0 r.toInt64))))] : va_W) ++ w1)) ∨ (∃ (E : String) (w1 : va_W), pe E w1 ∧ ((E = "java/lang/IndexOutOfBoundsException" ∧ z = nI 1) ∨ (E = "java/lang/IllegalArgumentException" ∧ z = nI 2) ∨ (E = "java/lang/IllegalStateException" ∧ z = nI 3)) ∧ w = (([(ao, .inl (cJ, 1, .inr (.inl ob)))] : va_W) ++ w1))) := by
  refine z_ofIH (cc := cL_see) (maxL := 5) (hh := [(0, 10, 13, 13), (0, 10, 17, 23), (0, 10, 21, 18)]) (by decide) rfl (Nat.le_of_ble_eq_true rfl) ?_
  intro p e s m args below meth c A Q ls hI hT hNc htab hret
  obtain ⟨hx, hb, hml, hown, hts, hnm, hA, hK, hN, hP, hD, hS, hl⟩ := hI
  have hown : s.vm.findClass RL = some m.cls := hown
  have hl : lv_has ls 5 [(0, .ref x), (1, .int a0), (2, .int a1), (3, .ref ao)] := hl
  have hP : va_P (dC, dI) vwCl (([(ao, .inl (cJ, 1, .inr (.inl ob)))] : va_W) ++ Tw) s.heap := hP
  have hD : va_D A (([(ao, .inl (cJ, 1, .inr (.inl ob)))] : va_W) ++ Tw) := hD
  have hz : ∀ w ∈ zW, w.before args s = true := fun w h => hts w (List.mem_cons_of_mem _ h)
  refine lv_aload_n hx hb dL_see_0 rfl (lv_at hl 3 rfl) ?_
  refine lv_iconst (v := nI 0) hx hb dL_see_1 (by decide) ?_
  refine lv_aload_n hx hb dL_see_2 rfl (lv_at hl 0 rfl) ?_
  refine lv_iload_n hx hb dL_see_3 rfl (lv_at hl 1 rfl) ?_
  refine lv_iload_n hx hb dL_see_4 rfl (lv_at hl 2 rfl) ?_
  refine z_ciPX (cx := ([] : va_W)) (wr := ([(ao, .inl (cJ, 1, .inr (.inl ob)))] : va_W)) (T := Tw) hP hD hS hA [] [0] rfl rfl (by decide) (by decide) (vx_runV (As := [.int a0, .int a1]) (rest := [.int (nI 0), .ref ao]) ⟨hx, hb, hml, hown, hz⟩ (hcal s.heap.size) (cwV 2 hz (zgV zw_451 zw_452 zw_453 zw_22 zw_454) rfl rfl rfl (by decide +kernel) ⟨Nat.le_of_ble_eq_true rfl, Nat.le_of_ble_eq_true rfl⟩) ⟨zPx_blind, z_recv hK hP (ci := 4) rfl rfl (z_right hrecv), z_prePX (cx := ([] : va_W)) hK hN hT hS hA hP hD [] rfl (by decide)⟩ rfl rfl hl.1 rfl (lv_room (Nat.le_of_ble_eq_true rfl)) dL_see_5 ⟨Nat.le_of_ble_eq_true rfl, Nat.le_of_ble_eq_true rfl⟩) (fun E ce q9 w1 H locs hw hjn hS hce hcv hcl => ?_) (fun r w1 H locs hw hjn hS => ?_)
  · obtain ⟨hP, hD⟩ := hjn w1 [] (List.append_nil w1).symm
    rw [List.append_nil] at hP hD
    have hP : va_P (dC, dI) vwCl (([(ao, .inl (cJ, 1, .inr (.inl ob)))] : va_W) ++ w1) H := hP
    have hD : va_D A (([(ao, .inl (cJ, 1, .inr (.inl ob)))] : va_W) ++ w1) := hD
    rcases hpe E w1 hw with rfl | rfl | rfl
    · refine vx_catch (own := RL) (name := "java/lang/IndexOutOfBoundsException") hown [] ⟨0, 10, 13, 13⟩ [⟨0, 10, 17, 23⟩, ⟨0, 10, 21, 18⟩] htab (fun z hz9 => absurd hz9 List.not_mem_nil) (by decide) (by decide) (hz _ zw_204) (hN.use _ zn_215) hce hcv hcl ?_
      refine lv_astore (lv' := [(4, .ref q9), (0, .ref x), (1, .int a0), (2, .int a1), (3, .ref ao)]) hx hb dL_see_13 hl (by decide) rfl (fun ls hl => ?_)
      refine lv_iconst (v := nI 1) hx hb dL_see_15 (by decide) ?_
      refine W.widen (k := 2) (n := 12) (Nat.le_of_ble_eq_true rfl) (Nat.le_of_ble_eq_true rfl) ?_
      exact hret H locs _ (([(ao, .inl (cJ, 1, .inr (.inl ob)))] : va_W) ++ w1) _ ls hP hD hS dL_see_16 (Or.inr ⟨_, w1, hw, (Or.inl ⟨rfl, rfl⟩), rfl⟩)
    · refine vx_catch (own := RL) (name := "java/lang/IllegalArgumentException") hown [⟨0, 10, 13, 13⟩] ⟨0, 10, 17, 23⟩ [⟨0, 10, 21, 18⟩] htab (fun z hz9 => by rw [List.mem_singleton.mp hz9]; exact (Or.inr ⟨by decide, _, (hz _ zw_204), hNc.2.1⟩)) (by decide) (by decide) (hz _ zw_348) (hN.use _ zn_356) hce hcv hcl ?_
      refine lv_astore (lv' := [(4, .ref q9), (0, .ref x), (1, .int a0), (2, .int a1), (3, .ref ao)]) hx hb dL_see_17 hl (by decide) rfl (fun ls hl => ?_)
      refine lv_iconst (v := nI 2) hx hb dL_see_19 (by decide) ?_
      refine W.widen (k := 2) (n := 12) (Nat.le_of_ble_eq_true rfl) (Nat.le_of_ble_eq_true rfl) ?_
      exact hret H locs _ (([(ao, .inl (cJ, 1, .inr (.inl ob)))] : va_W) ++ w1) _ ls hP hD hS dL_see_20 (Or.inr ⟨_, w1, hw, Or.inr (Or.inl ⟨rfl, rfl⟩), rfl⟩)
    · refine vx_catch (own := RL) (name := "java/lang/IllegalStateException") hown [⟨0, 10, 13, 13⟩, ⟨0, 10, 17, 23⟩] ⟨0, 10, 21, 18⟩ [] htab (fun z hz9 => by rcases List.mem_cons.mp hz9 with h9 | h9; (rw [h9]; exact (Or.inr ⟨by decide, _, (hz _ zw_204), hNc.1⟩)); (rw [List.mem_singleton.mp h9]; exact (Or.inr ⟨by decide, _, (hz _ zw_348), hNc.2.2⟩))) (by decide) (by decide) (hz _ zw_285) (hN.use _ zn_331) hce hcv hcl ?_
      refine lv_astore (lv' := [(4, .ref q9), (0, .ref x), (1, .int a0), (2, .int a1), (3, .ref ao)]) hx hb dL_see_21 hl (by decide) rfl (fun ls hl => ?_)
      refine lv_iconst (v := nI 3) hx hb dL_see_23 (by decide) ?_
      refine W.widen (k := 2) (n := 12) (Nat.le_of_ble_eq_true rfl) (Nat.le_of_ble_eq_true rfl) ?_
      exact hret H locs _ (([(ao, .inl (cJ, 1, .inr (.inl ob)))] : va_W) ++ w1) _ ls hP hD hS dL_see_24 (Or.inr ⟨_, w1, hw, Or.inr (Or.inr ⟨rfl, rfl⟩), rfl⟩)
  · obtain ⟨hP, hD⟩ := hjn w1 [] (List.append_nil w1).symm
    rw [List.append_nil] at hP hD
    have hP : va_P (dC, dI) vwCl (([(ao, .inl (cJ, 1, .inr (.inl ob)))] : va_W) ++ w1) H := hP
    have hD : va_D A (([(ao, .inl (cJ, 1, .inr (.inl ob)))] : va_W) ++ w1) := hD
    refine lv_i2l (v := r.toInt64) hx hb dL_see_8 rfl ?_
    refine z_last hx hb hK hP hD hS 0 1 rfl rfl (k := 0) (by omega) (by omega) dL_see_9 (fun H locs hP hD hS => ?_)
    have hP : va_P (dC, dI) vwCl (([(ao, .inl (cJ, 1, .inr (.inl (vp_updL ob 0 r.toInt64))))] : va_W) ++ w1) H := hP
    have hD : va_D A (([(ao, .inl (cJ, 1, .inr (.inl (vp_updL ob 0 r.toInt64))))] : va_W) ++ w1) := hD
    refine lv_goto (tgt := 25) hx hb dL_see_10 (by decide) ?_
    refine lv_iconst (v := nI 0) hx hb dL_see_25 (by decide) ?_
    refine W.widen (k := 2) (n := 12) (Nat.le_of_ble_eq_true rfl) (Nat.le_of_ble_eq_true rfl) ?_
    exact hret H locs _ (([(ao, .inl (cJ, 1, .inr (.inl (vp_updL ob 0 r.toInt64))))] : va_W) ++ w1) _ ls hP hD hS dL_see_26 (Or.inl ⟨rfl, r, w1, hw, rfl⟩)
