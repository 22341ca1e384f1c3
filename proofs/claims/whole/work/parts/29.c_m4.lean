abbrev rm_X5_hunk : Room := { frames := 1, cells := 0, slots := 0, locals := 21 }
set_option maxHeartbeats 4000000 in
set_option maxRecDepth 100000 in
theorem c_M_hunk (l : Launch) (dC : Nat → ClassId) (dI : Nat → Nat → Nat) (cI cS cB cZ : ClassId) (am : Nat → Nat) (cd st en cf : Int32) (mk mf mg : Nat → Int32) (ga : Nat → Nat → Int32) (n : Nat) (hn : n ≤ 240) (hmk : ∀ k, k < n → mk k = ga 1 k) (hki : mKi (ga 1) n) (hmf : ∀ k, k < n → mf k = ga 2 k) (hmg : ∀ k, k < n → mg k = ga 3 k) (x y : Int32) : zI l (dC, dI) vwCl (zTm cI cS cB cZ) zNW yX5_hunk wsX5_hunk rm_X5_hunk [.ref (am 0), .int x, .int y] ([(am 0, .inr (5, [.int cd, .ref (am 1), .ref (am 2), .ref (am 3), .int (nI n), .ref (am 4), .ref (am 5), .ref (am 6), .ref (am 7), .ref (am 8), .ref (am 9), .ref (am 10), .int en, .int cf, .ref (am 11), .ref (am 12), .ref (am 13), .ref (am 14), .ref (am 15)])), (am 4, .inl (cB, 240, .inl mk)), (am 5, .inl (cB, 240, .inl mf)), (am 6, .inl (cB, 240, .inl mg))] : va_W) (fun z w => ((∃ k, k < n ∧ opn (ga 1) k ∧ x = nI (hnk (ga 1) k) ∧ ((y = nI 0 ∧ z = ga 2 k) ∨ (y = nI 1 ∧ z = ga 3 k) ∨ (y = nI 2 ∧ z = nI (cin (ga 1) n (nI 1) (n - k) k)) ∨ (y = nI 3 ∧ z = nI (cin (ga 1) n (nI 2) (n - k) k)))) ∧ w = ([(am 0, .inr (5, [.int (nI 0), .ref (am 1), .ref (am 2), .ref (am 3), .int (nI n), .ref (am 4), .ref (am 5), .ref (am 6), .ref (am 7), .ref (am 8), .ref (am 9), .ref (am 10), .int en, .int cf, .ref (am 11), .ref (am 12), .ref (am 13), .ref (am 14), .ref (am 15)])), (am 4, .inl (cB, 240, .inl mk)), (am 5, .inl (cB, 240, .inl mf)), (am 6, .inl (cB, 240, .inl mg))] : va_W)) ∨ (¬ (∃ k, k < n ∧ opn (ga 1) k ∧ x = nI (hnk (ga 1) k)) ∧ w = ([(am 0, .inr (5, [.int (nI 1), .ref (am 1), .ref (am 2), .ref (am 3), .int (nI n), .ref (am 4), .ref (am 5), .ref (am 6), .ref (am 7), .ref (am 8), .ref (am 9), .ref (am 10), .int en, .int cf, .ref (am 11), .ref (am 12), .ref (am 13), .ref (am 14), .ref (am 15)])), (am 4, .inl (cB, 240, .inl mk)), (am 5, .inl (cB, 240, .inl mf)), (am 6, .inl (cB, 240, .inl mg))] : va_W)) ∨ ((∃ k, k < n ∧ opn (ga 1) k ∧ x = nI (hnk (ga 1) k)) ∧ (y.toInt < 0 ∨ 3 < y.toInt) ∧ w = ([(am 0, .inr (5, [.int (nI 2), .ref (am 1), .ref (am 2), .ref (am 3), .int (nI n), .ref (am 4), .ref (am 5), .ref (am 6), .ref (am 7), .ref (am 8), .ref (am 9), .ref (am 10), .int en, .int cf, .ref (am 11), .ref (am 12), .ref (am 13), .ref (am 14), .ref (am 15)])), (am 4, .inl (cB, 240, .inl mk)), (am 5, .inl (cB, 240, .inl mf)), (am 6, .inl (cB, 240, .inl mg))] : va_W))) := by
  refine z_ofI (cc := cX5_hunk) (maxL := 7) (Or.inl rfl) (by decide) rfl (Nat.le_of_ble_eq_true rfl) ?_
  intro p e s m args below meth c A Q ls hI hret
  obtain ⟨hx, hb, hml, hown, hts, hnm, hA, hK, hN, hP, hD, hS, hl⟩ := hI
  have hown : s.vm.findClass RX5 = some m.cls := hown
  have hl : lv_has ls 7 [(0, .ref (am 0)), (1, .int x), (2, .int y)] := hl
  have hP : va_P (dC, dI) vwCl (([(am 0, .inr (5, [.int cd, .ref (am 1), .ref (am 2), .ref (am 3), .int (nI n), .ref (am 4), .ref (am 5), .ref (am 6), .ref (am 7), .ref (am 8), .ref (am 9), .ref (am 10), .int en, .int cf, .ref (am 11), .ref (am 12), .ref (am 13), .ref (am 14), .ref (am 15)])), (am 4, .inl (cB, 240, .inl mk)), (am 5, .inl (cB, 240, .inl mf)), (am 6, .inl (cB, 240, .inl mg))] : va_W) ++ ([] : va_W)) s.heap := hP
  have hD : va_D A (([(am 0, .inr (5, [.int cd, .ref (am 1), .ref (am 2), .ref (am 3), .int (nI n), .ref (am 4), .ref (am 5), .ref (am 6), .ref (am 7), .ref (am 8), .ref (am 9), .ref (am 10), .int en, .int cf, .ref (am 11), .ref (am 12), .ref (am 13), .ref (am 14), .ref (am 15)])), (am 4, .inl (cB, 240, .inl mk)), (am 5, .inl (cB, 240, .inl mf)), (am 6, .inl (cB, 240, .inl mg))] : va_W) ++ ([] : va_W)) := hD
  have hz : ∀ w ∈ zW, w.before args s = true := fun w h => hts w (List.mem_cons_of_mem _ h)
  refine lv_iconst (v := nI 0) hx hb dX5_hunk_0 (by decide) ?_
  refine lv_istore_n (lv' := [(3, .int (nI 0)), (0, .ref (am 0)), (1, .int x), (2, .int y)]) hx hb dX5_hunk_1 rfl hl (by decide) rfl (fun ls hl => ?_)
  refine lv_iload_n hx hb dX5_hunk_2 rfl (lv_at hl 2 rfl) ?_
  refine lv_istore (lv' := [(4, .int x), (3, .int (nI 0)), (0, .ref (am 0)), (1, .int x), (2, .int y)]) hx hb dX5_hunk_3 hl (by decide) rfl (fun ls hl => ?_)
  by_cases hx0 : x < 0
  · have LA : ∀ (d : Nat) (k : Nat) (H : Heap) (locs : List Loc) (ls : Array Slot), k + d = n → va_P (dC, dI) vwCl (([(am 0, .inr (5, [.int cd, .ref (am 1), .ref (am 2), .ref (am 3), .int (nI n), .ref (am 4), .ref (am 5), .ref (am 6), .ref (am 7), .ref (am 8), .ref (am 9), .ref (am 10), .int en, .int cf, .ref (am 11), .ref (am 12), .ref (am 13), .ref (am 14), .ref (am 15)])), (am 4, .inl (cB, 240, .inl mk)), (am 5, .inl (cB, 240, .inl mf)), (am 6, .inl (cB, 240, .inl mg))] : va_W) ++ ([] : va_W)) H → va_D A (([(am 0, .inr (5, [.int cd, .ref (am 1), .ref (am 2), .ref (am 3), .int (nI n), .ref (am 4), .ref (am 5), .ref (am 6), .ref (am 7), .ref (am 8), .ref (am 9), .ref (am 10), .int en, .int cf, .ref (am 11), .ref (am 12), .ref (am 13), .ref (am 14), .ref (am 15)])), (am 4, .inl (cB, 240, .inl mk)), (am 5, .inl (cB, 240, .inl mf)), (am 6, .inl (cB, 240, .inl mg))] : va_W) ++ ([] : va_W)) → va_S A s.heap H locs → lv_has ls 7 [(4, .int x), (3, .int (nI k)), (0, .ref (am 0)), (1, .int x), (2, .int y)] → W p l e rm_X5_hunk s m args below meth c H locs 0 0 Q (F0 m 5 ls []) := by
      intro d
      induction d with
      | zero =>
        intro k H locs ls hk hP hD hS hl
        have hk : k = n := hk
        refine lv_iload_n hx hb dX5_hunk_5 rfl (lv_at hl 1 rfl) ?_
        refine lv_aload_n hx hb dX5_hunk_6 rfl (lv_at hl 2 rfl) ?_
        refine va_get (D := (dC, dI)) (ci := 5) (v := .int (nI n)) (C := RX5) (T := TX5) (N := 19) hx hb hz hinX5 hown hK hP 0 rfl rfl 4 (by decide) (hz _ zw_482) (fun _ h9 => h9) rfl dX5_hunk_7 ?_
        refine lv_icmp_ge (tgt := 50) hx hb dX5_hunk_10 (by decide) (fun bb1 => ?_) (fun bb1 => ?_)
        · have bb1 : n ≤ k := (nI_leI (by omega) (by omega)).mp bb1
          refine lv_aload_n hx hb dX5_hunk_50 rfl (lv_at hl 2 rfl) ?_
          refine lv_iload_n hx hb dX5_hunk_51 rfl (lv_at hl 3 rfl) ?_
          refine lv_if_lt (tgt := 63) hx hb dX5_hunk_52 (by decide) (fun c9 => ?_) (fun c9 => ?_)
          · refine lv_iconst (v := nI 1) hx hb dX5_hunk_63 (by decide) ?_
            refine lv_goto (tgt := 81) hx hb dX5_hunk_64 (by decide) ?_
            refine va_put (D := (dC, dI)) (ci := 5) (v := .int (nI 1)) (ty := .int) (C := RX5) (T := TX5) (N := 19) hx hb hz hinX5 tyX5 tyX5_ok nmX5 hown hK hP hD hS 0 rfl rfl 0 (by decide) (hz _ zw_478) (fun _ h9 => h9) rfl (by decide +kernel) rfl rfl (Nat.le_of_ble_eq_true rfl) dX5_hunk_81 (fun H locs hP hD hS => ?_)
            have hP : va_P (dC, dI) vwCl (([(am 0, .inr (5, [.int (nI 1), .ref (am 1), .ref (am 2), .ref (am 3), .int (nI n), .ref (am 4), .ref (am 5), .ref (am 6), .ref (am 7), .ref (am 8), .ref (am 9), .ref (am 10), .int en, .int cf, .ref (am 11), .ref (am 12), .ref (am 13), .ref (am 14), .ref (am 15)])), (am 4, .inl (cB, 240, .inl mk)), (am 5, .inl (cB, 240, .inl mf)), (am 6, .inl (cB, 240, .inl mg))] : va_W) ++ ([] : va_W)) H := hP
            have hD : va_D A (([(am 0, .inr (5, [.int (nI 1), .ref (am 1), .ref (am 2), .ref (am 3), .int (nI n), .ref (am 4), .ref (am 5), .ref (am 6), .ref (am 7), .ref (am 8), .ref (am 9), .ref (am 10), .int en, .int cf, .ref (am 11), .ref (am 12), .ref (am 13), .ref (am 14), .ref (am 15)])), (am 4, .inl (cB, 240, .inl mk)), (am 5, .inl (cB, 240, .inl mf)), (am 6, .inl (cB, 240, .inl mg))] : va_W) ++ ([] : va_W)) := hD
            refine lv_aload_n hx hb dX5_hunk_84 rfl (lv_at hl 2 rfl) ?_
            refine va_get (D := (dC, dI)) (ci := 5) (v := .int (nI 1)) (C := RX5) (T := TX5) (N := 19) hx hb hz hinX5 hown hK hP 0 rfl rfl 0 (by decide) (hz _ zw_478) (fun _ h9 => h9) rfl dX5_hunk_85 ?_
            refine lv_if_le (tgt := 93) hx hb dX5_hunk_88 (by decide) (fun ck2 => ?_) (fun ck2 => ?_)
            · exact absurd ck2 (by decide)
            · refine lv_iconst (v := nI 0) hx hb dX5_hunk_91 (by decide) ?_
              exact hret H locs _ ([(am 0, .inr (5, [.int (nI 1), .ref (am 1), .ref (am 2), .ref (am 3), .int (nI n), .ref (am 4), .ref (am 5), .ref (am 6), .ref (am 7), .ref (am 8), .ref (am 9), .ref (am 10), .int en, .int cf, .ref (am 11), .ref (am 12), .ref (am 13), .ref (am 14), .ref (am 15)])), (am 4, .inl (cB, 240, .inl mk)), (am 5, .inl (cB, 240, .inl mf)), (am 6, .inl (cB, 240, .inl mg))] : va_W) _ ls hP hD hS dX5_hunk_92 (Or.inr (Or.inl ⟨fun ⟨k9, g1, _, g3⟩ => by rw [g3] at hx0; exact nI_pos (by have := hnk_le (K := ga 1) k9; omega) hx0, rfl⟩))
          · exact absurd hx0 c9
        · have bb1 : ¬ (n ≤ k) := fun h => bb1 ((nI_leI (by omega) (by omega)).mpr h)
          omega
      | succ d ih =>
        intro k H locs ls hk hP hD hS hl
        refine lv_iload_n hx hb dX5_hunk_5 rfl (lv_at hl 1 rfl) ?_
        refine lv_aload_n hx hb dX5_hunk_6 rfl (lv_at hl 2 rfl) ?_
        refine va_get (D := (dC, dI)) (ci := 5) (v := .int (nI n)) (C := RX5) (T := TX5) (N := 19) hx hb hz hinX5 hown hK hP 0 rfl rfl 4 (by decide) (hz _ zw_482) (fun _ h9 => h9) rfl dX5_hunk_7 ?_
        refine lv_icmp_ge (tgt := 50) hx hb dX5_hunk_10 (by decide) (fun bb3 => ?_) (fun bb3 => ?_)
        · have bb3 : n ≤ k := (nI_leI (by omega) (by omega)).mp bb3
          omega
        · have bb3 : ¬ (n ≤ k) := fun h => bb3 ((nI_leI (by omega) (by omega)).mpr h)
          refine lv_aload_n hx hb dX5_hunk_13 rfl (lv_at hl 2 rfl) ?_
          refine lv_iload_n hx hb dX5_hunk_14 rfl (lv_at hl 1 rfl) ?_
          refine z_ciQ (wr := ([(am 5, .inl (cB, 240, .inl mf)), (am 6, .inl (cB, 240, .inl mg))] : va_W)) (cx := ([(am 0, .inr (5, [.int cd, .ref (am 1), .ref (am 2), .ref (am 3), .int (nI n), .ref (am 4), .ref (am 5), .ref (am 6), .ref (am 7), .ref (am 8), .ref (am 9), .ref (am 10), .int en, .int cf, .ref (am 11), .ref (am 12), .ref (am 13), .ref (am 14), .ref (am 15)])), (am 4, .inl (cB, 240, .inl mk))] : va_W)) hP hD hS hA [0, 1] [2, 3] rfl rfl (by decide) (by decide) (va_runV (As := [.int (nI k)]) (rest := []) ⟨hx, hb, hml, hown, hz⟩ (c_M_opens l dC dI cI cS cB cZ am cd (nI n) en cf mk ga n hn hmk hki k (by omega) H.size) (cwV 1 hz (zgV zw_593 zw_595 zw_16 zw_27 zw_596) rfl rfl rfl (by decide +kernel) ⟨Nat.le_of_ble_eq_true rfl, Nat.le_of_ble_eq_true rfl⟩) ⟨zP_blind, z_recv hK hP (ci := 5) rfl rfl (q0 := 0) rfl, z_preQ hK hN hP hD [0, 1] rfl (by decide)⟩ rfl rfl hl.1 rfl (lv_room (Nat.le_of_ble_eq_true rfl)) dX5_hunk_15 ⟨Nat.le_of_ble_eq_true rfl, Nat.le_of_ble_eq_true rfl⟩) (fun vc2 w1 H locs hw hP hD hS => ?_)
          obtain ⟨hc2, hw⟩ := hw
          subst hw
          have hP : va_P (dC, dI) vwCl (([(am 5, .inl (cB, 240, .inl mf)), (am 6, .inl (cB, 240, .inl mg)), (am 0, .inr (5, [.int cd, .ref (am 1), .ref (am 2), .ref (am 3), .int (nI n), .ref (am 4), .ref (am 5), .ref (am 6), .ref (am 7), .ref (am 8), .ref (am 9), .ref (am 10), .int en, .int cf, .ref (am 11), .ref (am 12), .ref (am 13), .ref (am 14), .ref (am 15)])), (am 4, .inl (cB, 240, .inl mk))] : va_W) ++ ([] : va_W)) H := hP
          have hD : va_D A (([(am 5, .inl (cB, 240, .inl mf)), (am 6, .inl (cB, 240, .inl mg)), (am 0, .inr (5, [.int cd, .ref (am 1), .ref (am 2), .ref (am 3), .int (nI n), .ref (am 4), .ref (am 5), .ref (am 6), .ref (am 7), .ref (am 8), .ref (am 9), .ref (am 10), .int en, .int cf, .ref (am 11), .ref (am 12), .ref (am 13), .ref (am 14), .ref (am 15)])), (am 4, .inl (cB, 240, .inl mk))] : va_W) ++ ([] : va_W)) := hD
          have hP := z_permP (cx := ([(am 0, .inr (5, [.int cd, .ref (am 1), .ref (am 2), .ref (am 3), .int (nI n), .ref (am 4), .ref (am 5), .ref (am 6), .ref (am 7), .ref (am 8), .ref (am 9), .ref (am 10), .int en, .int cf, .ref (am 11), .ref (am 12), .ref (am 13), .ref (am 14), .ref (am 15)])), (am 4, .inl (cB, 240, .inl mk)), (am 5, .inl (cB, 240, .inl mf)), (am 6, .inl (cB, 240, .inl mg))] : va_W)) hP [2, 3, 0, 1] rfl
          have hD := z_permD (cx := ([(am 0, .inr (5, [.int cd, .ref (am 1), .ref (am 2), .ref (am 3), .int (nI n), .ref (am 4), .ref (am 5), .ref (am 6), .ref (am 7), .ref (am 8), .ref (am 9), .ref (am 10), .int en, .int cf, .ref (am 11), .ref (am 12), .ref (am 13), .ref (am 14), .ref (am 15)])), (am 4, .inl (cB, 240, .inl mk)), (am 5, .inl (cB, 240, .inl mf)), (am 6, .inl (cB, 240, .inl mg))] : va_W)) hD [2, 3, 0, 1] rfl (by decide)
          refine lv_if_eq (tgt := 26) hx hb dX5_hunk_18 (by decide) (fun c2 => ?_) (fun c2 => ?_)
          · have hopc2 : ¬ opn (ga 1) k := fun z => by rw [hc2, if_pos z] at c2; exact absurd c2 (by decide)
            refine lv_iload hx hb dX5_hunk_26 (lv_at hl 0 rfl) ?_
            refine lv_aload_n hx hb dX5_hunk_28 rfl (lv_at hl 2 rfl) ?_
            refine lv_iload_n hx hb dX5_hunk_29 rfl (lv_at hl 1 rfl) ?_
            refine z_ciQ (wr := ([(am 5, .inl (cB, 240, .inl mf)), (am 6, .inl (cB, 240, .inl mg))] : va_W)) (cx := ([(am 0, .inr (5, [.int cd, .ref (am 1), .ref (am 2), .ref (am 3), .int (nI n), .ref (am 4), .ref (am 5), .ref (am 6), .ref (am 7), .ref (am 8), .ref (am 9), .ref (am 10), .int en, .int cf, .ref (am 11), .ref (am 12), .ref (am 13), .ref (am 14), .ref (am 15)])), (am 4, .inl (cB, 240, .inl mk))] : va_W)) hP hD hS hA [0, 1] [2, 3] rfl rfl (by decide) (by decide) (va_runV (As := [.int (nI k)]) (rest := [.int x]) ⟨hx, hb, hml, hown, hz⟩ (c_M_opens l dC dI cI cS cB cZ am cd (nI n) en cf mk ga n hn hmk hki k (by omega) H.size) (cwV 1 hz (zgV zw_593 zw_595 zw_16 zw_27 zw_596) rfl rfl rfl (by decide +kernel) ⟨Nat.le_of_ble_eq_true rfl, Nat.le_of_ble_eq_true rfl⟩) ⟨zP_blind, z_recv hK hP (ci := 5) rfl rfl (q0 := 0) rfl, z_preQ hK hN hP hD [0, 1] rfl (by decide)⟩ rfl rfl hl.1 rfl (lv_room (Nat.le_of_ble_eq_true rfl)) dX5_hunk_30 ⟨Nat.le_of_ble_eq_true rfl, Nat.le_of_ble_eq_true rfl⟩) (fun vc3 w1 H locs hw hP hD hS => ?_)
            obtain ⟨hc3, hw⟩ := hw
            subst hw
            have hP : va_P (dC, dI) vwCl (([(am 5, .inl (cB, 240, .inl mf)), (am 6, .inl (cB, 240, .inl mg)), (am 0, .inr (5, [.int cd, .ref (am 1), .ref (am 2), .ref (am 3), .int (nI n), .ref (am 4), .ref (am 5), .ref (am 6), .ref (am 7), .ref (am 8), .ref (am 9), .ref (am 10), .int en, .int cf, .ref (am 11), .ref (am 12), .ref (am 13), .ref (am 14), .ref (am 15)])), (am 4, .inl (cB, 240, .inl mk))] : va_W) ++ ([] : va_W)) H := hP
            have hD : va_D A (([(am 5, .inl (cB, 240, .inl mf)), (am 6, .inl (cB, 240, .inl mg)), (am 0, .inr (5, [.int cd, .ref (am 1), .ref (am 2), .ref (am 3), .int (nI n), .ref (am 4), .ref (am 5), .ref (am 6), .ref (am 7), .ref (am 8), .ref (am 9), .ref (am 10), .int en, .int cf, .ref (am 11), .ref (am 12), .ref (am 13), .ref (am 14), .ref (am 15)])), (am 4, .inl (cB, 240, .inl mk))] : va_W) ++ ([] : va_W)) := hD
            have hP := z_permP (cx := ([(am 0, .inr (5, [.int cd, .ref (am 1), .ref (am 2), .ref (am 3), .int (nI n), .ref (am 4), .ref (am 5), .ref (am 6), .ref (am 7), .ref (am 8), .ref (am 9), .ref (am 10), .int en, .int cf, .ref (am 11), .ref (am 12), .ref (am 13), .ref (am 14), .ref (am 15)])), (am 4, .inl (cB, 240, .inl mk)), (am 5, .inl (cB, 240, .inl mf)), (am 6, .inl (cB, 240, .inl mg))] : va_W)) hP [2, 3, 0, 1] rfl
            have hD := z_permD (cx := ([(am 0, .inr (5, [.int cd, .ref (am 1), .ref (am 2), .ref (am 3), .int (nI n), .ref (am 4), .ref (am 5), .ref (am 6), .ref (am 7), .ref (am 8), .ref (am 9), .ref (am 10), .int en, .int cf, .ref (am 11), .ref (am 12), .ref (am 13), .ref (am 14), .ref (am 15)])), (am 4, .inl (cB, 240, .inl mk)), (am 5, .inl (cB, 240, .inl mf)), (am 6, .inl (cB, 240, .inl mg))] : va_W)) hD [2, 3, 0, 1] rfl (by decide)
            refine lv_if_eq (tgt := 40) hx hb dX5_hunk_33 (by decide) (fun c3 => ?_) (fun c3 => ?_)
            · have hopc3 : ¬ opn (ga 1) k := fun z => by rw [hc3, if_pos z] at c3; exact absurd c3 (by decide)
              refine lv_iconst (v := nI 0) hx hb dX5_hunk_40 (by decide) ?_
              refine lv_isub hx hb dX5_hunk_41 ?_
              rw [z_sub0]
              refine lv_istore (lv' := [(4, .int x), (3, .int (nI k)), (0, .ref (am 0)), (1, .int x), (2, .int y)]) hx hb dX5_hunk_42 hl (by decide) rfl (fun ls hl => ?_)
              refine lv_iinc (v := nI (k + 1)) (lv' := [(3, .int (nI (k + 1))), (4, .int x), (0, .ref (am 0)), (1, .int x), (2, .int y)]) hx hb dX5_hunk_44 hl (k := 1) rfl (show nI k + 1 = nI (k + 1) from nI_1 _) (by decide) rfl (fun ls hl => ?_)
              refine lv_goto (tgt := 5) hx hb dX5_hunk_47 (by decide) ?_
              exact ih (k + 1) _ _ ls (by omega) hP hD hS (lv_sub hl [1, 0, 2, 3, 4] rfl)
            · have hopc3 : opn (ga 1) k := by by_cases z : opn (ga 1) k; exact z; exact absurd (by rw [hc3, if_neg z]) c3
              exact absurd hopc3 hopc2
          · have hopc2 : opn (ga 1) k := by by_cases z : opn (ga 1) k; exact z; exact absurd (by rw [hc2, if_neg z]) c2
            refine lv_iload hx hb dX5_hunk_21 (lv_at hl 0 rfl) ?_
            refine lv_if_le (tgt := 50) hx hb dX5_hunk_23 (by decide) (fun c4 => ?_) (fun c4 => ?_)
            · refine lv_aload_n hx hb dX5_hunk_50 rfl (lv_at hl 2 rfl) ?_
              refine lv_iload_n hx hb dX5_hunk_51 rfl (lv_at hl 3 rfl) ?_
              refine lv_if_lt (tgt := 63) hx hb dX5_hunk_52 (by decide) (fun c9 => ?_) (fun c9 => ?_)
              · refine lv_iconst (v := nI 1) hx hb dX5_hunk_63 (by decide) ?_
                refine lv_goto (tgt := 81) hx hb dX5_hunk_64 (by decide) ?_
                refine va_put (D := (dC, dI)) (ci := 5) (v := .int (nI 1)) (ty := .int) (C := RX5) (T := TX5) (N := 19) hx hb hz hinX5 tyX5 tyX5_ok nmX5 hown hK hP hD hS 0 rfl rfl 0 (by decide) (hz _ zw_478) (fun _ h9 => h9) rfl (by decide +kernel) rfl rfl (Nat.le_of_ble_eq_true rfl) dX5_hunk_81 (fun H locs hP hD hS => ?_)
                have hP : va_P (dC, dI) vwCl (([(am 0, .inr (5, [.int (nI 1), .ref (am 1), .ref (am 2), .ref (am 3), .int (nI n), .ref (am 4), .ref (am 5), .ref (am 6), .ref (am 7), .ref (am 8), .ref (am 9), .ref (am 10), .int en, .int cf, .ref (am 11), .ref (am 12), .ref (am 13), .ref (am 14), .ref (am 15)])), (am 4, .inl (cB, 240, .inl mk)), (am 5, .inl (cB, 240, .inl mf)), (am 6, .inl (cB, 240, .inl mg))] : va_W) ++ ([] : va_W)) H := hP
                have hD : va_D A (([(am 0, .inr (5, [.int (nI 1), .ref (am 1), .ref (am 2), .ref (am 3), .int (nI n), .ref (am 4), .ref (am 5), .ref (am 6), .ref (am 7), .ref (am 8), .ref (am 9), .ref (am 10), .int en, .int cf, .ref (am 11), .ref (am 12), .ref (am 13), .ref (am 14), .ref (am 15)])), (am 4, .inl (cB, 240, .inl mk)), (am 5, .inl (cB, 240, .inl mf)), (am 6, .inl (cB, 240, .inl mg))] : va_W) ++ ([] : va_W)) := hD
                refine lv_aload_n hx hb dX5_hunk_84 rfl (lv_at hl 2 rfl) ?_
                refine va_get (D := (dC, dI)) (ci := 5) (v := .int (nI 1)) (C := RX5) (T := TX5) (N := 19) hx hb hz hinX5 hown hK hP 0 rfl rfl 0 (by decide) (hz _ zw_478) (fun _ h9 => h9) rfl dX5_hunk_85 ?_
                refine lv_if_le (tgt := 93) hx hb dX5_hunk_88 (by decide) (fun ck4 => ?_) (fun ck4 => ?_)
                · exact absurd ck4 (by decide)
                · refine lv_iconst (v := nI 0) hx hb dX5_hunk_91 (by decide) ?_
                  exact hret H locs _ ([(am 0, .inr (5, [.int (nI 1), .ref (am 1), .ref (am 2), .ref (am 3), .int (nI n), .ref (am 4), .ref (am 5), .ref (am 6), .ref (am 7), .ref (am 8), .ref (am 9), .ref (am 10), .int en, .int cf, .ref (am 11), .ref (am 12), .ref (am 13), .ref (am 14), .ref (am 15)])), (am 4, .inl (cB, 240, .inl mk)), (am 5, .inl (cB, 240, .inl mf)), (am 6, .inl (cB, 240, .inl mg))] : va_W) _ ls hP hD hS dX5_hunk_92 (Or.inr (Or.inl ⟨fun ⟨k9, g1, _, g3⟩ => by rw [g3] at hx0; exact nI_pos (by have := hnk_le (K := ga 1) k9; omega) hx0, rfl⟩))
              · exact absurd hx0 c9
            · exact absurd (Int32.le_of_lt hx0) c4
    exact LA n 0 _ _ ls (by omega) hP hD hS (lv_sub hl [0, 1, 2, 3, 4] rfl)
  · obtain ⟨xn, hxn, rfl⟩ := nI_of hx0
    have LB : ∀ (d : Nat) (k : Nat) (H : Heap) (locs : List Loc) (ls : Array Slot), k + d = n → hnk (ga 1) k ≤ xn → (∀ j, j < k → opn (ga 1) j → hnk (ga 1) j < xn) → va_P (dC, dI) vwCl (([(am 0, .inr (5, [.int cd, .ref (am 1), .ref (am 2), .ref (am 3), .int (nI n), .ref (am 4), .ref (am 5), .ref (am 6), .ref (am 7), .ref (am 8), .ref (am 9), .ref (am 10), .int en, .int cf, .ref (am 11), .ref (am 12), .ref (am 13), .ref (am 14), .ref (am 15)])), (am 4, .inl (cB, 240, .inl mk)), (am 5, .inl (cB, 240, .inl mf)), (am 6, .inl (cB, 240, .inl mg))] : va_W) ++ ([] : va_W)) H → va_D A (([(am 0, .inr (5, [.int cd, .ref (am 1), .ref (am 2), .ref (am 3), .int (nI n), .ref (am 4), .ref (am 5), .ref (am 6), .ref (am 7), .ref (am 8), .ref (am 9), .ref (am 10), .int en, .int cf, .ref (am 11), .ref (am 12), .ref (am 13), .ref (am 14), .ref (am 15)])), (am 4, .inl (cB, 240, .inl mk)), (am 5, .inl (cB, 240, .inl mf)), (am 6, .inl (cB, 240, .inl mg))] : va_W) ++ ([] : va_W)) → va_S A s.heap H locs → lv_has ls 7 [(4, .int (nI (xn - hnk (ga 1) k))), (3, .int (nI k)), (0, .ref (am 0)), (1, .int (nI xn)), (2, .int y)] → W p l e rm_X5_hunk s m args below meth c H locs 0 0 Q (F0 m 5 ls []) := by
      intro d
      induction d with
      | zero =>
        intro k H locs ls hk hxk hpr hP hD hS hl
        have hk : k = n := hk
        refine lv_iload_n hx hb dX5_hunk_5 rfl (lv_at hl 1 rfl) ?_
        refine lv_aload_n hx hb dX5_hunk_6 rfl (lv_at hl 2 rfl) ?_
        refine va_get (D := (dC, dI)) (ci := 5) (v := .int (nI n)) (C := RX5) (T := TX5) (N := 19) hx hb hz hinX5 hown hK hP 0 rfl rfl 4 (by decide) (hz _ zw_482) (fun _ h9 => h9) rfl dX5_hunk_7 ?_
        refine lv_icmp_ge (tgt := 50) hx hb dX5_hunk_10 (by decide) (fun bb5 => ?_) (fun bb5 => ?_)
        · have bb5 : n ≤ k := (nI_leI (by omega) (by omega)).mp bb5
          refine lv_aload_n hx hb dX5_hunk_50 rfl (lv_at hl 2 rfl) ?_
          refine lv_iload_n hx hb dX5_hunk_51 rfl (lv_at hl 3 rfl) ?_
          refine lv_if_lt (tgt := 63) hx hb dX5_hunk_52 (by decide) (fun c9 => ?_) (fun c9 => ?_)
          · exact absurd c9 (nI_pos hxn)
          · refine lv_iload_n hx hb dX5_hunk_55 rfl (lv_at hl 1 rfl) ?_
            refine lv_aload_n hx hb dX5_hunk_56 rfl (lv_at hl 2 rfl) ?_
            refine va_get (D := (dC, dI)) (ci := 5) (v := .int (nI n)) (C := RX5) (T := TX5) (N := 19) hx hb hz hinX5 hown hK hP 0 rfl rfl 4 (by decide) (hz _ zw_482) (fun _ h9 => h9) rfl dX5_hunk_57 ?_
            refine lv_icmp_lt (tgt := 67) hx hb dX5_hunk_60 (by decide) (fun bb6 => ?_) (fun bb6 => ?_)
            · have bb6 : k < n := (nI_ltI (by omega) (by omega)).mp bb6
              omega
            · have bb6 : ¬ (k < n) := fun h => bb6 ((nI_ltI (by omega) (by omega)).mpr h)
              refine lv_iconst (v := nI 1) hx hb dX5_hunk_63 (by decide) ?_
              refine lv_goto (tgt := 81) hx hb dX5_hunk_64 (by decide) ?_
              refine va_put (D := (dC, dI)) (ci := 5) (v := .int (nI 1)) (ty := .int) (C := RX5) (T := TX5) (N := 19) hx hb hz hinX5 tyX5 tyX5_ok nmX5 hown hK hP hD hS 0 rfl rfl 0 (by decide) (hz _ zw_478) (fun _ h9 => h9) rfl (by decide +kernel) rfl rfl (Nat.le_of_ble_eq_true rfl) dX5_hunk_81 (fun H locs hP hD hS => ?_)
              have hP : va_P (dC, dI) vwCl (([(am 0, .inr (5, [.int (nI 1), .ref (am 1), .ref (am 2), .ref (am 3), .int (nI n), .ref (am 4), .ref (am 5), .ref (am 6), .ref (am 7), .ref (am 8), .ref (am 9), .ref (am 10), .int en, .int cf, .ref (am 11), .ref (am 12), .ref (am 13), .ref (am 14), .ref (am 15)])), (am 4, .inl (cB, 240, .inl mk)), (am 5, .inl (cB, 240, .inl mf)), (am 6, .inl (cB, 240, .inl mg))] : va_W) ++ ([] : va_W)) H := hP
              have hD : va_D A (([(am 0, .inr (5, [.int (nI 1), .ref (am 1), .ref (am 2), .ref (am 3), .int (nI n), .ref (am 4), .ref (am 5), .ref (am 6), .ref (am 7), .ref (am 8), .ref (am 9), .ref (am 10), .int en, .int cf, .ref (am 11), .ref (am 12), .ref (am 13), .ref (am 14), .ref (am 15)])), (am 4, .inl (cB, 240, .inl mk)), (am 5, .inl (cB, 240, .inl mf)), (am 6, .inl (cB, 240, .inl mg))] : va_W) ++ ([] : va_W)) := hD
              refine lv_aload_n hx hb dX5_hunk_84 rfl (lv_at hl 2 rfl) ?_
              refine va_get (D := (dC, dI)) (ci := 5) (v := .int (nI 1)) (C := RX5) (T := TX5) (N := 19) hx hb hz hinX5 hown hK hP 0 rfl rfl 0 (by decide) (hz _ zw_478) (fun _ h9 => h9) rfl dX5_hunk_85 ?_
              refine lv_if_le (tgt := 93) hx hb dX5_hunk_88 (by decide) (fun ck7 => ?_) (fun ck7 => ?_)
              · exact absurd ck7 (by decide)
              · refine lv_iconst (v := nI 0) hx hb dX5_hunk_91 (by decide) ?_
                exact hret H locs _ ([(am 0, .inr (5, [.int (nI 1), .ref (am 1), .ref (am 2), .ref (am 3), .int (nI n), .ref (am 4), .ref (am 5), .ref (am 6), .ref (am 7), .ref (am 8), .ref (am 9), .ref (am 10), .int en, .int cf, .ref (am 11), .ref (am 12), .ref (am 13), .ref (am 14), .ref (am 15)])), (am 4, .inl (cB, 240, .inl mk)), (am 5, .inl (cB, 240, .inl mf)), (am 6, .inl (cB, 240, .inl mg))] : va_W) _ ls hP hD hS dX5_hunk_92 (Or.inr (Or.inl ⟨fun ⟨k9, g1, g2, g3⟩ => by have := hpr k9 (by omega) g2; have g4 := (nI_eq hxn (by have := hnk_le (K := ga 1) k9; omega)).mp g3; omega, rfl⟩))
        · have bb5 : ¬ (n ≤ k) := fun h => bb5 ((nI_leI (by omega) (by omega)).mpr h)
          omega
      | succ d ih =>
        intro k H locs ls hk hxk hpr hP hD hS hl
        have hb1 := hnk_le (K := ga 1) k
        refine lv_iload_n hx hb dX5_hunk_5 rfl (lv_at hl 1 rfl) ?_
        refine lv_aload_n hx hb dX5_hunk_6 rfl (lv_at hl 2 rfl) ?_
        refine va_get (D := (dC, dI)) (ci := 5) (v := .int (nI n)) (C := RX5) (T := TX5) (N := 19) hx hb hz hinX5 hown hK hP 0 rfl rfl 4 (by decide) (hz _ zw_482) (fun _ h9 => h9) rfl dX5_hunk_7 ?_
        refine lv_icmp_ge (tgt := 50) hx hb dX5_hunk_10 (by decide) (fun bb8 => ?_) (fun bb8 => ?_)
        · have bb8 : n ≤ k := (nI_leI (by omega) (by omega)).mp bb8
          omega
        · have bb8 : ¬ (n ≤ k) := fun h => bb8 ((nI_leI (by omega) (by omega)).mpr h)
          refine lv_aload_n hx hb dX5_hunk_13 rfl (lv_at hl 2 rfl) ?_
          refine lv_iload_n hx hb dX5_hunk_14 rfl (lv_at hl 1 rfl) ?_
          refine z_ciQ (wr := ([(am 5, .inl (cB, 240, .inl mf)), (am 6, .inl (cB, 240, .inl mg))] : va_W)) (cx := ([(am 0, .inr (5, [.int cd, .ref (am 1), .ref (am 2), .ref (am 3), .int (nI n), .ref (am 4), .ref (am 5), .ref (am 6), .ref (am 7), .ref (am 8), .ref (am 9), .ref (am 10), .int en, .int cf, .ref (am 11), .ref (am 12), .ref (am 13), .ref (am 14), .ref (am 15)])), (am 4, .inl (cB, 240, .inl mk))] : va_W)) hP hD hS hA [0, 1] [2, 3] rfl rfl (by decide) (by decide) (va_runV (As := [.int (nI k)]) (rest := []) ⟨hx, hb, hml, hown, hz⟩ (c_M_opens l dC dI cI cS cB cZ am cd (nI n) en cf mk ga n hn hmk hki k (by omega) H.size) (cwV 1 hz (zgV zw_593 zw_595 zw_16 zw_27 zw_596) rfl rfl rfl (by decide +kernel) ⟨Nat.le_of_ble_eq_true rfl, Nat.le_of_ble_eq_true rfl⟩) ⟨zP_blind, z_recv hK hP (ci := 5) rfl rfl (q0 := 0) rfl, z_preQ hK hN hP hD [0, 1] rfl (by decide)⟩ rfl rfl hl.1 rfl (lv_room (Nat.le_of_ble_eq_true rfl)) dX5_hunk_15 ⟨Nat.le_of_ble_eq_true rfl, Nat.le_of_ble_eq_true rfl⟩) (fun vc2 w1 H locs hw hP hD hS => ?_)
          obtain ⟨hc2, hw⟩ := hw
          subst hw
          have hP : va_P (dC, dI) vwCl (([(am 5, .inl (cB, 240, .inl mf)), (am 6, .inl (cB, 240, .inl mg)), (am 0, .inr (5, [.int cd, .ref (am 1), .ref (am 2), .ref (am 3), .int (nI n), .ref (am 4), .ref (am 5), .ref (am 6), .ref (am 7), .ref (am 8), .ref (am 9), .ref (am 10), .int en, .int cf, .ref (am 11), .ref (am 12), .ref (am 13), .ref (am 14), .ref (am 15)])), (am 4, .inl (cB, 240, .inl mk))] : va_W) ++ ([] : va_W)) H := hP
          have hD : va_D A (([(am 5, .inl (cB, 240, .inl mf)), (am 6, .inl (cB, 240, .inl mg)), (am 0, .inr (5, [.int cd, .ref (am 1), .ref (am 2), .ref (am 3), .int (nI n), .ref (am 4), .ref (am 5), .ref (am 6), .ref (am 7), .ref (am 8), .ref (am 9), .ref (am 10), .int en, .int cf, .ref (am 11), .ref (am 12), .ref (am 13), .ref (am 14), .ref (am 15)])), (am 4, .inl (cB, 240, .inl mk))] : va_W) ++ ([] : va_W)) := hD
          have hP := z_permP (cx := ([(am 0, .inr (5, [.int cd, .ref (am 1), .ref (am 2), .ref (am 3), .int (nI n), .ref (am 4), .ref (am 5), .ref (am 6), .ref (am 7), .ref (am 8), .ref (am 9), .ref (am 10), .int en, .int cf, .ref (am 11), .ref (am 12), .ref (am 13), .ref (am 14), .ref (am 15)])), (am 4, .inl (cB, 240, .inl mk)), (am 5, .inl (cB, 240, .inl mf)), (am 6, .inl (cB, 240, .inl mg))] : va_W)) hP [2, 3, 0, 1] rfl
          have hD := z_permD (cx := ([(am 0, .inr (5, [.int cd, .ref (am 1), .ref (am 2), .ref (am 3), .int (nI n), .ref (am 4), .ref (am 5), .ref (am 6), .ref (am 7), .ref (am 8), .ref (am 9), .ref (am 10), .int en, .int cf, .ref (am 11), .ref (am 12), .ref (am 13), .ref (am 14), .ref (am 15)])), (am 4, .inl (cB, 240, .inl mk)), (am 5, .inl (cB, 240, .inl mf)), (am 6, .inl (cB, 240, .inl mg))] : va_W)) hD [2, 3, 0, 1] rfl (by decide)
          refine lv_if_eq (tgt := 26) hx hb dX5_hunk_18 (by decide) (fun c2 => ?_) (fun c2 => ?_)
          · have hopc2 : ¬ opn (ga 1) k := fun z => by rw [hc2, if_pos z] at c2; exact absurd c2 (by decide)
            refine lv_iload hx hb dX5_hunk_26 (lv_at hl 0 rfl) ?_
            refine lv_aload_n hx hb dX5_hunk_28 rfl (lv_at hl 2 rfl) ?_
            refine lv_iload_n hx hb dX5_hunk_29 rfl (lv_at hl 1 rfl) ?_
            refine z_ciQ (wr := ([(am 5, .inl (cB, 240, .inl mf)), (am 6, .inl (cB, 240, .inl mg))] : va_W)) (cx := ([(am 0, .inr (5, [.int cd, .ref (am 1), .ref (am 2), .ref (am 3), .int (nI n), .ref (am 4), .ref (am 5), .ref (am 6), .ref (am 7), .ref (am 8), .ref (am 9), .ref (am 10), .int en, .int cf, .ref (am 11), .ref (am 12), .ref (am 13), .ref (am 14), .ref (am 15)])), (am 4, .inl (cB, 240, .inl mk))] : va_W)) hP hD hS hA [0, 1] [2, 3] rfl rfl (by decide) (by decide) (va_runV (As := [.int (nI k)]) (rest := [.int (nI (xn - hnk (ga 1) k))]) ⟨hx, hb, hml, hown, hz⟩ (c_M_opens l dC dI cI cS cB cZ am cd (nI n) en cf mk ga n hn hmk hki k (by omega) H.size) (cwV 1 hz (zgV zw_593 zw_595 zw_16 zw_27 zw_596) rfl rfl rfl (by decide +kernel) ⟨Nat.le_of_ble_eq_true rfl, Nat.le_of_ble_eq_true rfl⟩) ⟨zP_blind, z_recv hK hP (ci := 5) rfl rfl (q0 := 0) rfl, z_preQ hK hN hP hD [0, 1] rfl (by decide)⟩ rfl rfl hl.1 rfl (lv_room (Nat.le_of_ble_eq_true rfl)) dX5_hunk_30 ⟨Nat.le_of_ble_eq_true rfl, Nat.le_of_ble_eq_true rfl⟩) (fun vc3 w1 H locs hw hP hD hS => ?_)
            obtain ⟨hc3, hw⟩ := hw
            subst hw
            have hP : va_P (dC, dI) vwCl (([(am 5, .inl (cB, 240, .inl mf)), (am 6, .inl (cB, 240, .inl mg)), (am 0, .inr (5, [.int cd, .ref (am 1), .ref (am 2), .ref (am 3), .int (nI n), .ref (am 4), .ref (am 5), .ref (am 6), .ref (am 7), .ref (am 8), .ref (am 9), .ref (am 10), .int en, .int cf, .ref (am 11), .ref (am 12), .ref (am 13), .ref (am 14), .ref (am 15)])), (am 4, .inl (cB, 240, .inl mk))] : va_W) ++ ([] : va_W)) H := hP
            have hD : va_D A (([(am 5, .inl (cB, 240, .inl mf)), (am 6, .inl (cB, 240, .inl mg)), (am 0, .inr (5, [.int cd, .ref (am 1), .ref (am 2), .ref (am 3), .int (nI n), .ref (am 4), .ref (am 5), .ref (am 6), .ref (am 7), .ref (am 8), .ref (am 9), .ref (am 10), .int en, .int cf, .ref (am 11), .ref (am 12), .ref (am 13), .ref (am 14), .ref (am 15)])), (am 4, .inl (cB, 240, .inl mk))] : va_W) ++ ([] : va_W)) := hD
            have hP := z_permP (cx := ([(am 0, .inr (5, [.int cd, .ref (am 1), .ref (am 2), .ref (am 3), .int (nI n), .ref (am 4), .ref (am 5), .ref (am 6), .ref (am 7), .ref (am 8), .ref (am 9), .ref (am 10), .int en, .int cf, .ref (am 11), .ref (am 12), .ref (am 13), .ref (am 14), .ref (am 15)])), (am 4, .inl (cB, 240, .inl mk)), (am 5, .inl (cB, 240, .inl mf)), (am 6, .inl (cB, 240, .inl mg))] : va_W)) hP [2, 3, 0, 1] rfl
            have hD := z_permD (cx := ([(am 0, .inr (5, [.int cd, .ref (am 1), .ref (am 2), .ref (am 3), .int (nI n), .ref (am 4), .ref (am 5), .ref (am 6), .ref (am 7), .ref (am 8), .ref (am 9), .ref (am 10), .int en, .int cf, .ref (am 11), .ref (am 12), .ref (am 13), .ref (am 14), .ref (am 15)])), (am 4, .inl (cB, 240, .inl mk)), (am 5, .inl (cB, 240, .inl mf)), (am 6, .inl (cB, 240, .inl mg))] : va_W)) hD [2, 3, 0, 1] rfl (by decide)
            refine lv_if_eq (tgt := 40) hx hb dX5_hunk_33 (by decide) (fun c3 => ?_) (fun c3 => ?_)
            · have hopc3 : ¬ opn (ga 1) k := fun z => by rw [hc3, if_pos z] at c3; exact absurd c3 (by decide)
              refine lv_iconst (v := nI 0) hx hb dX5_hunk_40 (by decide) ?_
              refine t_isub hx hb dX5_hunk_41 (show nI (xn - hnk (ga 1) k) - nI 0 = nI ((xn - hnk (ga 1) k) - 0) from (pk_sub (by omega))) ?_
              refine lv_istore (lv' := [(4, .int (nI ((xn - hnk (ga 1) k) - 0))), (3, .int (nI k)), (0, .ref (am 0)), (1, .int (nI xn)), (2, .int y)]) hx hb dX5_hunk_42 hl (by decide) rfl (fun ls hl => ?_)
              refine lv_iinc (v := nI (k + 1)) (lv' := [(3, .int (nI (k + 1))), (4, .int (nI ((xn - hnk (ga 1) k) - 0))), (0, .ref (am 0)), (1, .int (nI xn)), (2, .int y)]) hx hb dX5_hunk_44 hl (k := 1) rfl (show nI k + 1 = nI (k + 1) from nI_1 _) (by decide) rfl (fun ls hl => ?_)
              refine lv_goto (tgt := 5) hx hb dX5_hunk_47 (by decide) ?_
              exact ih (k + 1) _ _ ls (by omega) (by rw [hnk_no hopc2]; omega) (lt_s hpr (fun z => absurd z hopc2)) hP hD hS (by rw [hnk_no hopc2]; exact (lv_sub hl [1, 0, 2, 3, 4] rfl))
            · have hopc3 : opn (ga 1) k := by by_cases z : opn (ga 1) k; exact z; exact absurd (by rw [hc3, if_neg z]) c3
              exact absurd hopc3 hopc2
          · have hopc2 : opn (ga 1) k := by by_cases z : opn (ga 1) k; exact z; exact absurd (by rw [hc2, if_neg z]) c2
            refine lv_iload hx hb dX5_hunk_21 (lv_at hl 0 rfl) ?_
            refine lv_if_le (tgt := 50) hx hb dX5_hunk_23 (by decide) (fun c4 => ?_) (fun c4 => ?_)
            · have hz9 := z_le0 (by omega) c4
              have hxe : hnk (ga 1) k = xn := by omega
              have hhk : ∃ k, k < n ∧ opn (ga 1) k ∧ nI xn = nI (hnk (ga 1) k) := ⟨k, by omega, hopc2, by rw [hxe]⟩
              refine lv_aload_n hx hb dX5_hunk_50 rfl (lv_at hl 2 rfl) ?_
              refine lv_iload_n hx hb dX5_hunk_51 rfl (lv_at hl 3 rfl) ?_
              refine lv_if_lt (tgt := 63) hx hb dX5_hunk_52 (by decide) (fun c9 => ?_) (fun c9 => ?_)
              · exact absurd c9 (nI_pos hxn)
              · refine lv_iload_n hx hb dX5_hunk_55 rfl (lv_at hl 1 rfl) ?_
                refine lv_aload_n hx hb dX5_hunk_56 rfl (lv_at hl 2 rfl) ?_
                refine va_get (D := (dC, dI)) (ci := 5) (v := .int (nI n)) (C := RX5) (T := TX5) (N := 19) hx hb hz hinX5 hown hK hP 0 rfl rfl 4 (by decide) (hz _ zw_482) (fun _ h9 => h9) rfl dX5_hunk_57 ?_
                refine lv_icmp_lt (tgt := 67) hx hb dX5_hunk_60 (by decide) (fun bb9 => ?_) (fun bb9 => ?_)
                · have bb9 : k < n := (nI_ltI (by omega) (by omega)).mp bb9
                  refine lv_iload_n hx hb dX5_hunk_67 rfl (lv_at hl 4 rfl) ?_
                  refine lv_if_lt (tgt := 76) hx hb dX5_hunk_68 (by decide) (fun c6 => ?_) (fun c6 => ?_)
                  · refine lv_iconst (v := nI 2) hx hb dX5_hunk_76 (by decide) ?_
                    refine lv_goto (tgt := 81) hx hb dX5_hunk_77 (by decide) ?_
                    refine va_put (D := (dC, dI)) (ci := 5) (v := .int (nI 2)) (ty := .int) (C := RX5) (T := TX5) (N := 19) hx hb hz hinX5 tyX5 tyX5_ok nmX5 hown hK hP hD hS 0 rfl rfl 0 (by decide) (hz _ zw_478) (fun _ h9 => h9) rfl (by decide +kernel) rfl rfl (Nat.le_of_ble_eq_true rfl) dX5_hunk_81 (fun H locs hP hD hS => ?_)
                    have hP : va_P (dC, dI) vwCl (([(am 0, .inr (5, [.int (nI 2), .ref (am 1), .ref (am 2), .ref (am 3), .int (nI n), .ref (am 4), .ref (am 5), .ref (am 6), .ref (am 7), .ref (am 8), .ref (am 9), .ref (am 10), .int en, .int cf, .ref (am 11), .ref (am 12), .ref (am 13), .ref (am 14), .ref (am 15)])), (am 4, .inl (cB, 240, .inl mk)), (am 5, .inl (cB, 240, .inl mf)), (am 6, .inl (cB, 240, .inl mg))] : va_W) ++ ([] : va_W)) H := hP
                    have hD : va_D A (([(am 0, .inr (5, [.int (nI 2), .ref (am 1), .ref (am 2), .ref (am 3), .int (nI n), .ref (am 4), .ref (am 5), .ref (am 6), .ref (am 7), .ref (am 8), .ref (am 9), .ref (am 10), .int en, .int cf, .ref (am 11), .ref (am 12), .ref (am 13), .ref (am 14), .ref (am 15)])), (am 4, .inl (cB, 240, .inl mk)), (am 5, .inl (cB, 240, .inl mf)), (am 6, .inl (cB, 240, .inl mg))] : va_W) ++ ([] : va_W)) := hD
                    refine lv_aload_n hx hb dX5_hunk_84 rfl (lv_at hl 2 rfl) ?_
                    refine va_get (D := (dC, dI)) (ci := 5) (v := .int (nI 2)) (C := RX5) (T := TX5) (N := 19) hx hb hz hinX5 hown hK hP 0 rfl rfl 0 (by decide) (hz _ zw_478) (fun _ h9 => h9) rfl dX5_hunk_85 ?_
                    refine lv_if_le (tgt := 93) hx hb dX5_hunk_88 (by decide) (fun ck10 => ?_) (fun ck10 => ?_)
                    · exact absurd ck10 (by decide)
                    · refine lv_iconst (v := nI 0) hx hb dX5_hunk_91 (by decide) ?_
                      exact hret H locs _ ([(am 0, .inr (5, [.int (nI 2), .ref (am 1), .ref (am 2), .ref (am 3), .int (nI n), .ref (am 4), .ref (am 5), .ref (am 6), .ref (am 7), .ref (am 8), .ref (am 9), .ref (am 10), .int en, .int cf, .ref (am 11), .ref (am 12), .ref (am 13), .ref (am 14), .ref (am 15)])), (am 4, .inl (cB, 240, .inl mk)), (am 5, .inl (cB, 240, .inl mf)), (am 6, .inl (cB, 240, .inl mg))] : va_W) _ ls hP hD hS dX5_hunk_92 (Or.inr (Or.inr ⟨hhk, sw_lo c6, rfl⟩))
                  · refine lv_iload_n hx hb dX5_hunk_71 rfl (lv_at hl 4 rfl) ?_
                    refine lv_iconst (v := nI 3) hx hb dX5_hunk_72 (by decide) ?_
                    refine lv_icmp_le (tgt := 80) hx hb dX5_hunk_73 (by decide) (fun c7 => ?_) (fun c7 => ?_)
                    · refine lv_iconst (v := nI 0) hx hb dX5_hunk_80 (by decide) ?_
                      refine va_put (D := (dC, dI)) (ci := 5) (v := .int (nI 0)) (ty := .int) (C := RX5) (T := TX5) (N := 19) hx hb hz hinX5 tyX5 tyX5_ok nmX5 hown hK hP hD hS 0 rfl rfl 0 (by decide) (hz _ zw_478) (fun _ h9 => h9) rfl (by decide +kernel) rfl rfl (Nat.le_of_ble_eq_true rfl) dX5_hunk_81 (fun H locs hP hD hS => ?_)
                      have hP : va_P (dC, dI) vwCl (([(am 0, .inr (5, [.int (nI 0), .ref (am 1), .ref (am 2), .ref (am 3), .int (nI n), .ref (am 4), .ref (am 5), .ref (am 6), .ref (am 7), .ref (am 8), .ref (am 9), .ref (am 10), .int en, .int cf, .ref (am 11), .ref (am 12), .ref (am 13), .ref (am 14), .ref (am 15)])), (am 4, .inl (cB, 240, .inl mk)), (am 5, .inl (cB, 240, .inl mf)), (am 6, .inl (cB, 240, .inl mg))] : va_W) ++ ([] : va_W)) H := hP
                      have hD : va_D A (([(am 0, .inr (5, [.int (nI 0), .ref (am 1), .ref (am 2), .ref (am 3), .int (nI n), .ref (am 4), .ref (am 5), .ref (am 6), .ref (am 7), .ref (am 8), .ref (am 9), .ref (am 10), .int en, .int cf, .ref (am 11), .ref (am 12), .ref (am 13), .ref (am 14), .ref (am 15)])), (am 4, .inl (cB, 240, .inl mk)), (am 5, .inl (cB, 240, .inl mf)), (am 6, .inl (cB, 240, .inl mg))] : va_W) ++ ([] : va_W)) := hD
                      refine lv_aload_n hx hb dX5_hunk_84 rfl (lv_at hl 2 rfl) ?_
                      refine va_get (D := (dC, dI)) (ci := 5) (v := .int (nI 0)) (C := RX5) (T := TX5) (N := 19) hx hb hz hinX5 hown hK hP 0 rfl rfl 0 (by decide) (hz _ zw_478) (fun _ h9 => h9) rfl dX5_hunk_85 ?_
                      refine lv_if_le (tgt := 93) hx hb dX5_hunk_88 (by decide) (fun ck11 => ?_) (fun ck11 => ?_)
                      · refine lv_iconst (v := nI 0) hx hb dX5_hunk_93 (by decide) ?_
                        refine lv_istore (lv' := [(5, .int (nI 0)), (4, .int (nI (xn - hnk (ga 1) k))), (3, .int (nI k)), (0, .ref (am 0)), (1, .int (nI xn)), (2, .int y)]) hx hb dX5_hunk_94 hl (by decide) rfl (fun ls hl => ?_)
                        refine lv_iload_n hx hb dX5_hunk_96 rfl (lv_at hl 2 rfl) ?_
                        refine lv_istore (lv' := [(6, .int (nI k)), (5, .int (nI 0)), (4, .int (nI (xn - hnk (ga 1) k))), (3, .int (nI k)), (0, .ref (am 0)), (1, .int (nI xn)), (2, .int y)]) hx hb dX5_hunk_97 hl (by decide) rfl (fun ls hl => ?_)
                        have LC : ∀ (e9 : Nat) (i : Nat) (cc : Nat) (H : Heap) (locs : List Loc) (ls : Array Slot), i + e9 = n → cc ≤ i → cc + cin (ga 1) n (y - nI 1) e9 i = cin (ga 1) n (y - nI 1) (n - k) k → va_P (dC, dI) vwCl (([(am 0, .inr (5, [.int (nI 0), .ref (am 1), .ref (am 2), .ref (am 3), .int (nI n), .ref (am 4), .ref (am 5), .ref (am 6), .ref (am 7), .ref (am 8), .ref (am 9), .ref (am 10), .int en, .int cf, .ref (am 11), .ref (am 12), .ref (am 13), .ref (am 14), .ref (am 15)])), (am 4, .inl (cB, 240, .inl mk)), (am 5, .inl (cB, 240, .inl mf)), (am 6, .inl (cB, 240, .inl mg))] : va_W) ++ ([] : va_W)) H → va_D A (([(am 0, .inr (5, [.int (nI 0), .ref (am 1), .ref (am 2), .ref (am 3), .int (nI n), .ref (am 4), .ref (am 5), .ref (am 6), .ref (am 7), .ref (am 8), .ref (am 9), .ref (am 10), .int en, .int cf, .ref (am 11), .ref (am 12), .ref (am 13), .ref (am 14), .ref (am 15)])), (am 4, .inl (cB, 240, .inl mk)), (am 5, .inl (cB, 240, .inl mf)), (am 6, .inl (cB, 240, .inl mg))] : va_W) ++ ([] : va_W)) → va_S A s.heap H locs → lv_has ls 7 [(6, .int (nI i)), (5, .int (nI cc)), (3, .int (nI k)), (0, .ref (am 0)), (1, .int (nI xn)), (2, .int y)] → W p l e rm_X5_hunk s m args below meth c H locs 0 0 Q (F0 m 99 ls []) := by
                          intro e9
                          induction e9 with
                          | zero =>
                            intro i cc H locs ls hi hci hcc hP hD hS hl
                            have hi : i = n := hi
                            have hfin : cc = cin (ga 1) n (y - nI 1) (n - k) k := hcc
                            refine lv_iload hx hb dX5_hunk_99 (lv_at hl 0 rfl) ?_
                            refine lv_aload_n hx hb dX5_hunk_101 rfl (lv_at hl 3 rfl) ?_
                            refine va_get (D := (dC, dI)) (ci := 5) (v := .int (nI n)) (C := RX5) (T := TX5) (N := 19) hx hb hz hinX5 hown hK hP 0 rfl rfl 4 (by decide) (hz _ zw_482) (fun _ h9 => h9) rfl dX5_hunk_102 ?_
                            refine lv_icmp_ge (tgt := 147) hx hb dX5_hunk_105 (by decide) (fun bb12 => ?_) (fun bb12 => ?_)
                            · have bb12 : n ≤ i := (nI_leI (by omega) (by omega)).mp bb12
                              refine lv_iload_n hx hb dX5_hunk_147 rfl (lv_at hl 5 rfl) ?_
                              rcases sw_of c6 c7 with rfl | rfl | rfl | rfl
                              · refine lv_if_ne (tgt := 160) hx hb dX5_hunk_148 (by decide) (fun ck13 => ?_) (fun ck13 => ?_)
                                · exact absurd ck13 (by decide)
                                · refine lv_aload_n hx hb dX5_hunk_151 rfl (lv_at hl 3 rfl) ?_
                                  refine va_get (D := (dC, dI)) (ci := 5) (v := .ref (am 5)) (C := RX5) (T := TX5) (N := 19) hx hb hz hinX5 hown hK hP 0 rfl rfl 6 (by decide) (hz _ zw_484) (fun _ h9 => h9) rfl dX5_hunk_152 ?_
                                  refine lv_iload_n hx hb dX5_hunk_155 rfl (lv_at hl 2 rfl) ?_
                                  refine z_bald (v := ga 2 k) hx hb hK hP 2 2 rfl rfl (k := k) (by omega) (by omega) (hmf k (by omega)) dX5_hunk_156 ?_
                                  refine lv_goto (tgt := 176) hx hb dX5_hunk_157 (by decide) ?_
                                  exact hret H locs _ ([(am 0, .inr (5, [.int (nI 0), .ref (am 1), .ref (am 2), .ref (am 3), .int (nI n), .ref (am 4), .ref (am 5), .ref (am 6), .ref (am 7), .ref (am 8), .ref (am 9), .ref (am 10), .int en, .int cf, .ref (am 11), .ref (am 12), .ref (am 13), .ref (am 14), .ref (am 15)])), (am 4, .inl (cB, 240, .inl mk)), (am 5, .inl (cB, 240, .inl mf)), (am 6, .inl (cB, 240, .inl mg))] : va_W) _ ls hP hD hS dX5_hunk_176 (Or.inl ⟨⟨k, by omega, hopc2, by rw [hxe], Or.inl ⟨rfl, rfl⟩⟩, rfl⟩)
                              · refine lv_if_ne (tgt := 160) hx hb dX5_hunk_148 (by decide) (fun ck14 => ?_) (fun ck14 => ?_)
                                · refine lv_iload_n hx hb dX5_hunk_160 rfl (lv_at hl 5 rfl) ?_
                                  refine lv_iconst (v := nI 1) hx hb dX5_hunk_161 (by decide) ?_
                                  refine lv_icmp_ne (tgt := 174) hx hb dX5_hunk_162 (by decide) (fun ck15 => ?_) (fun ck15 => ?_)
                                  · exact absurd ck15 (by decide)
                                  · refine lv_aload_n hx hb dX5_hunk_165 rfl (lv_at hl 3 rfl) ?_
                                    refine va_get (D := (dC, dI)) (ci := 5) (v := .ref (am 6)) (C := RX5) (T := TX5) (N := 19) hx hb hz hinX5 hown hK hP 0 rfl rfl 7 (by decide) (hz _ zw_485) (fun _ h9 => h9) rfl dX5_hunk_166 ?_
                                    refine lv_iload_n hx hb dX5_hunk_169 rfl (lv_at hl 2 rfl) ?_
                                    refine z_bald (v := ga 3 k) hx hb hK hP 3 2 rfl rfl (k := k) (by omega) (by omega) (hmg k (by omega)) dX5_hunk_170 ?_
                                    refine lv_goto (tgt := 176) hx hb dX5_hunk_171 (by decide) ?_
                                    exact hret H locs _ ([(am 0, .inr (5, [.int (nI 0), .ref (am 1), .ref (am 2), .ref (am 3), .int (nI n), .ref (am 4), .ref (am 5), .ref (am 6), .ref (am 7), .ref (am 8), .ref (am 9), .ref (am 10), .int en, .int cf, .ref (am 11), .ref (am 12), .ref (am 13), .ref (am 14), .ref (am 15)])), (am 4, .inl (cB, 240, .inl mk)), (am 5, .inl (cB, 240, .inl mf)), (am 6, .inl (cB, 240, .inl mg))] : va_W) _ ls hP hD hS dX5_hunk_176 (Or.inl ⟨⟨k, by omega, hopc2, by rw [hxe], Or.inr (Or.inl ⟨rfl, rfl⟩)⟩, rfl⟩)
                                · exact absurd ck14 (by decide)
                              · refine lv_if_ne (tgt := 160) hx hb dX5_hunk_148 (by decide) (fun ck16 => ?_) (fun ck16 => ?_)
                                · refine lv_iload_n hx hb dX5_hunk_160 rfl (lv_at hl 5 rfl) ?_
                                  refine lv_iconst (v := nI 1) hx hb dX5_hunk_161 (by decide) ?_
                                  refine lv_icmp_ne (tgt := 174) hx hb dX5_hunk_162 (by decide) (fun ck17 => ?_) (fun ck17 => ?_)
                                  · refine lv_iload hx hb dX5_hunk_174 (lv_at hl 1 rfl) ?_
                                    exact hret H locs _ ([(am 0, .inr (5, [.int (nI 0), .ref (am 1), .ref (am 2), .ref (am 3), .int (nI n), .ref (am 4), .ref (am 5), .ref (am 6), .ref (am 7), .ref (am 8), .ref (am 9), .ref (am 10), .int en, .int cf, .ref (am 11), .ref (am 12), .ref (am 13), .ref (am 14), .ref (am 15)])), (am 4, .inl (cB, 240, .inl mk)), (am 5, .inl (cB, 240, .inl mf)), (am 6, .inl (cB, 240, .inl mg))] : va_W) _ ls hP hD hS dX5_hunk_176 (Or.inl ⟨⟨k, by omega, hopc2, by rw [hxe], Or.inr (Or.inr (Or.inl ⟨rfl, by rw [hfin, show nI 2 - nI 1 = nI 1 by decide]⟩))⟩, rfl⟩)
                                  · exact absurd ck17 (by decide)
                                · exact absurd ck16 (by decide)
                              · refine lv_if_ne (tgt := 160) hx hb dX5_hunk_148 (by decide) (fun ck18 => ?_) (fun ck18 => ?_)
                                · refine lv_iload_n hx hb dX5_hunk_160 rfl (lv_at hl 5 rfl) ?_
                                  refine lv_iconst (v := nI 1) hx hb dX5_hunk_161 (by decide) ?_
                                  refine lv_icmp_ne (tgt := 174) hx hb dX5_hunk_162 (by decide) (fun ck19 => ?_) (fun ck19 => ?_)
                                  · refine lv_iload hx hb dX5_hunk_174 (lv_at hl 1 rfl) ?_
                                    exact hret H locs _ ([(am 0, .inr (5, [.int (nI 0), .ref (am 1), .ref (am 2), .ref (am 3), .int (nI n), .ref (am 4), .ref (am 5), .ref (am 6), .ref (am 7), .ref (am 8), .ref (am 9), .ref (am 10), .int en, .int cf, .ref (am 11), .ref (am 12), .ref (am 13), .ref (am 14), .ref (am 15)])), (am 4, .inl (cB, 240, .inl mk)), (am 5, .inl (cB, 240, .inl mf)), (am 6, .inl (cB, 240, .inl mg))] : va_W) _ ls hP hD hS dX5_hunk_176 (Or.inl ⟨⟨k, by omega, hopc2, by rw [hxe], Or.inr (Or.inr (Or.inr ⟨rfl, by rw [hfin, show nI 3 - nI 1 = nI 2 by decide]⟩))⟩, rfl⟩)
                                  · exact absurd ck19 (by decide)
                                · exact absurd ck18 (by decide)
                            · have bb12 : ¬ (n ≤ i) := fun h => bb12 ((nI_leI (by omega) (by omega)).mpr h)
                              omega
                          | succ e9 ih2 =>
                            intro i cc H locs ls hi hci hcc hP hD hS hl
                            refine lv_iload hx hb dX5_hunk_99 (lv_at hl 0 rfl) ?_
                            refine lv_aload_n hx hb dX5_hunk_101 rfl (lv_at hl 3 rfl) ?_
                            refine va_get (D := (dC, dI)) (ci := 5) (v := .int (nI n)) (C := RX5) (T := TX5) (N := 19) hx hb hz hinX5 hown hK hP 0 rfl rfl 4 (by decide) (hz _ zw_482) (fun _ h9 => h9) rfl dX5_hunk_102 ?_
                            refine lv_icmp_ge (tgt := 147) hx hb dX5_hunk_105 (by decide) (fun bb20 => ?_) (fun bb20 => ?_)
                            · have bb20 : n ≤ i := (nI_leI (by omega) (by omega)).mp bb20
                              omega
                            · have bb20 : ¬ (n ≤ i) := fun h => bb20 ((nI_leI (by omega) (by omega)).mpr h)
                              refine lv_aload_n hx hb dX5_hunk_108 rfl (lv_at hl 3 rfl) ?_
                              refine va_get (D := (dC, dI)) (ci := 5) (v := .ref (am 4)) (C := RX5) (T := TX5) (N := 19) hx hb hz hinX5 hown hK hP 0 rfl rfl 5 (by decide) (hz _ zw_483) (fun _ h9 => h9) rfl dX5_hunk_109 ?_
                              refine lv_iload hx hb dX5_hunk_112 (lv_at hl 0 rfl) ?_
                              refine z_bald (v := ga 1 i) hx hb hK hP 1 2 rfl rfl (k := i) (by omega) (by omega) (hmk i (by omega)) dX5_hunk_114 ?_
                              refine lv_if_le (tgt := 147) hx hb dX5_hunk_115 (by decide) (fun c8 => ?_) (fun c8 => ?_)
                              · have hfin : cc = cin (ga 1) n (y - nI 1) (n - k) k := by rw [cin_end (Or.inr (ki_le hki (by omega) c8))] at hcc; exact hcc
                                refine lv_iload_n hx hb dX5_hunk_147 rfl (lv_at hl 5 rfl) ?_
                                rcases sw_of c6 c7 with rfl | rfl | rfl | rfl
                                · refine lv_if_ne (tgt := 160) hx hb dX5_hunk_148 (by decide) (fun ck21 => ?_) (fun ck21 => ?_)
                                  · exact absurd ck21 (by decide)
                                  · refine lv_aload_n hx hb dX5_hunk_151 rfl (lv_at hl 3 rfl) ?_
                                    refine va_get (D := (dC, dI)) (ci := 5) (v := .ref (am 5)) (C := RX5) (T := TX5) (N := 19) hx hb hz hinX5 hown hK hP 0 rfl rfl 6 (by decide) (hz _ zw_484) (fun _ h9 => h9) rfl dX5_hunk_152 ?_
                                    refine lv_iload_n hx hb dX5_hunk_155 rfl (lv_at hl 2 rfl) ?_
                                    refine z_bald (v := ga 2 k) hx hb hK hP 2 2 rfl rfl (k := k) (by omega) (by omega) (hmf k (by omega)) dX5_hunk_156 ?_
                                    refine lv_goto (tgt := 176) hx hb dX5_hunk_157 (by decide) ?_
                                    exact hret H locs _ ([(am 0, .inr (5, [.int (nI 0), .ref (am 1), .ref (am 2), .ref (am 3), .int (nI n), .ref (am 4), .ref (am 5), .ref (am 6), .ref (am 7), .ref (am 8), .ref (am 9), .ref (am 10), .int en, .int cf, .ref (am 11), .ref (am 12), .ref (am 13), .ref (am 14), .ref (am 15)])), (am 4, .inl (cB, 240, .inl mk)), (am 5, .inl (cB, 240, .inl mf)), (am 6, .inl (cB, 240, .inl mg))] : va_W) _ ls hP hD hS dX5_hunk_176 (Or.inl ⟨⟨k, by omega, hopc2, by rw [hxe], Or.inl ⟨rfl, rfl⟩⟩, rfl⟩)
                                · refine lv_if_ne (tgt := 160) hx hb dX5_hunk_148 (by decide) (fun ck22 => ?_) (fun ck22 => ?_)
                                  · refine lv_iload_n hx hb dX5_hunk_160 rfl (lv_at hl 5 rfl) ?_
                                    refine lv_iconst (v := nI 1) hx hb dX5_hunk_161 (by decide) ?_
                                    refine lv_icmp_ne (tgt := 174) hx hb dX5_hunk_162 (by decide) (fun ck23 => ?_) (fun ck23 => ?_)
                                    · exact absurd ck23 (by decide)
                                    · refine lv_aload_n hx hb dX5_hunk_165 rfl (lv_at hl 3 rfl) ?_
                                      refine va_get (D := (dC, dI)) (ci := 5) (v := .ref (am 6)) (C := RX5) (T := TX5) (N := 19) hx hb hz hinX5 hown hK hP 0 rfl rfl 7 (by decide) (hz _ zw_485) (fun _ h9 => h9) rfl dX5_hunk_166 ?_
                                      refine lv_iload_n hx hb dX5_hunk_169 rfl (lv_at hl 2 rfl) ?_
                                      refine z_bald (v := ga 3 k) hx hb hK hP 3 2 rfl rfl (k := k) (by omega) (by omega) (hmg k (by omega)) dX5_hunk_170 ?_
                                      refine lv_goto (tgt := 176) hx hb dX5_hunk_171 (by decide) ?_
                                      exact hret H locs _ ([(am 0, .inr (5, [.int (nI 0), .ref (am 1), .ref (am 2), .ref (am 3), .int (nI n), .ref (am 4), .ref (am 5), .ref (am 6), .ref (am 7), .ref (am 8), .ref (am 9), .ref (am 10), .int en, .int cf, .ref (am 11), .ref (am 12), .ref (am 13), .ref (am 14), .ref (am 15)])), (am 4, .inl (cB, 240, .inl mk)), (am 5, .inl (cB, 240, .inl mf)), (am 6, .inl (cB, 240, .inl mg))] : va_W) _ ls hP hD hS dX5_hunk_176 (Or.inl ⟨⟨k, by omega, hopc2, by rw [hxe], Or.inr (Or.inl ⟨rfl, rfl⟩)⟩, rfl⟩)
                                  · exact absurd ck22 (by decide)
                                · refine lv_if_ne (tgt := 160) hx hb dX5_hunk_148 (by decide) (fun ck24 => ?_) (fun ck24 => ?_)
                                  · refine lv_iload_n hx hb dX5_hunk_160 rfl (lv_at hl 5 rfl) ?_
                                    refine lv_iconst (v := nI 1) hx hb dX5_hunk_161 (by decide) ?_
                                    refine lv_icmp_ne (tgt := 174) hx hb dX5_hunk_162 (by decide) (fun ck25 => ?_) (fun ck25 => ?_)
                                    · refine lv_iload hx hb dX5_hunk_174 (lv_at hl 1 rfl) ?_
                                      exact hret H locs _ ([(am 0, .inr (5, [.int (nI 0), .ref (am 1), .ref (am 2), .ref (am 3), .int (nI n), .ref (am 4), .ref (am 5), .ref (am 6), .ref (am 7), .ref (am 8), .ref (am 9), .ref (am 10), .int en, .int cf, .ref (am 11), .ref (am 12), .ref (am 13), .ref (am 14), .ref (am 15)])), (am 4, .inl (cB, 240, .inl mk)), (am 5, .inl (cB, 240, .inl mf)), (am 6, .inl (cB, 240, .inl mg))] : va_W) _ ls hP hD hS dX5_hunk_176 (Or.inl ⟨⟨k, by omega, hopc2, by rw [hxe], Or.inr (Or.inr (Or.inl ⟨rfl, by rw [hfin, show nI 2 - nI 1 = nI 1 by decide]⟩))⟩, rfl⟩)
                                    · exact absurd ck25 (by decide)
                                  · exact absurd ck24 (by decide)
                                · refine lv_if_ne (tgt := 160) hx hb dX5_hunk_148 (by decide) (fun ck26 => ?_) (fun ck26 => ?_)
                                  · refine lv_iload_n hx hb dX5_hunk_160 rfl (lv_at hl 5 rfl) ?_
                                    refine lv_iconst (v := nI 1) hx hb dX5_hunk_161 (by decide) ?_
                                    refine lv_icmp_ne (tgt := 174) hx hb dX5_hunk_162 (by decide) (fun ck27 => ?_) (fun ck27 => ?_)
                                    · refine lv_iload hx hb dX5_hunk_174 (lv_at hl 1 rfl) ?_
                                      exact hret H locs _ ([(am 0, .inr (5, [.int (nI 0), .ref (am 1), .ref (am 2), .ref (am 3), .int (nI n), .ref (am 4), .ref (am 5), .ref (am 6), .ref (am 7), .ref (am 8), .ref (am 9), .ref (am 10), .int en, .int cf, .ref (am 11), .ref (am 12), .ref (am 13), .ref (am 14), .ref (am 15)])), (am 4, .inl (cB, 240, .inl mk)), (am 5, .inl (cB, 240, .inl mf)), (am 6, .inl (cB, 240, .inl mg))] : va_W) _ ls hP hD hS dX5_hunk_176 (Or.inl ⟨⟨k, by omega, hopc2, by rw [hxe], Or.inr (Or.inr (Or.inr ⟨rfl, by rw [hfin, show nI 3 - nI 1 = nI 2 by decide]⟩))⟩, rfl⟩)
                                    · exact absurd ck27 (by decide)
                                  · exact absurd ck26 (by decide)
                              · refine lv_iload hx hb dX5_hunk_118 (lv_at hl 1 rfl) ?_
                                refine lv_aload_n hx hb dX5_hunk_120 rfl (lv_at hl 3 rfl) ?_
                                refine va_get (D := (dC, dI)) (ci := 5) (v := .ref (am 4)) (C := RX5) (T := TX5) (N := 19) hx hb hz hinX5 hown hK hP 0 rfl rfl 5 (by decide) (hz _ zw_483) (fun _ h9 => h9) rfl dX5_hunk_121 ?_
                                refine lv_iload hx hb dX5_hunk_124 (lv_at hl 0 rfl) ?_
                                refine z_bald (v := ga 1 i) hx hb hK hP 1 2 rfl rfl (k := i) (by omega) (by omega) (hmk i (by omega)) dX5_hunk_126 ?_
                                refine lv_iload_n hx hb dX5_hunk_127 rfl (lv_at hl 5 rfl) ?_
                                refine lv_iconst (v := nI 1) hx hb dX5_hunk_128 (by decide) ?_
                                refine lv_isub hx hb dX5_hunk_129 ?_
                                refine lv_icmp_ne (tgt := 137) hx hb dX5_hunk_130 (by decide) (fun c10 => ?_) (fun c10 => ?_)
                                · refine lv_iconst (v := nI 0) hx hb dX5_hunk_137 (by decide) ?_
                                  refine t_iadd hx hb dX5_hunk_138 (show nI cc + nI 0 = nI cc from (nI_add _ _)) ?_
                                  refine lv_istore (lv' := [(5, .int (nI cc)), (6, .int (nI i)), (3, .int (nI k)), (0, .ref (am 0)), (1, .int (nI xn)), (2, .int y)]) hx hb dX5_hunk_139 hl (by decide) rfl (fun ls hl => ?_)
                                  refine lv_iinc (v := nI (i + 1)) (lv' := [(6, .int (nI (i + 1))), (5, .int (nI cc)), (3, .int (nI k)), (0, .ref (am 0)), (1, .int (nI xn)), (2, .int y)]) hx hb dX5_hunk_141 hl (k := 1) rfl (show nI i + 1 = nI (i + 1) from nI_1 _) (by decide) rfl (fun ls hl => ?_)
                                  refine lv_goto (tgt := 99) hx hb dX5_hunk_144 (by decide) ?_
                                  exact ih2 (i + 1) cc _ _ ls (by omega) (by omega) (by rw [cin_no (ki_nle c8) c10 (by omega)] at hcc; exact hcc) hP hD hS (lv_sub hl [0, 1, 2, 3, 4, 5] rfl)
                                · refine lv_iconst (v := nI 1) hx hb dX5_hunk_133 (by decide) ?_
                                  refine lv_goto (tgt := 138) hx hb dX5_hunk_134 (by decide) ?_
                                  refine t_iadd hx hb dX5_hunk_138 (show nI cc + nI 1 = nI (cc + 1) from (nI_add _ _)) ?_
                                  refine lv_istore (lv' := [(5, .int (nI (cc + 1))), (6, .int (nI i)), (3, .int (nI k)), (0, .ref (am 0)), (1, .int (nI xn)), (2, .int y)]) hx hb dX5_hunk_139 hl (by decide) rfl (fun ls hl => ?_)
                                  refine lv_iinc (v := nI (i + 1)) (lv' := [(6, .int (nI (i + 1))), (5, .int (nI (cc + 1))), (3, .int (nI k)), (0, .ref (am 0)), (1, .int (nI xn)), (2, .int y)]) hx hb dX5_hunk_141 hl (k := 1) rfl (show nI i + 1 = nI (i + 1) from nI_1 _) (by decide) rfl (fun ls hl => ?_)
                                  refine lv_goto (tgt := 99) hx hb dX5_hunk_144 (by decide) ?_
                                  exact ih2 (i + 1) (cc + 1) _ _ ls (by omega) (by omega) (by rw [cin_yes (ki_nle c8) c10 (by omega)] at hcc; omega) hP hD hS (lv_sub hl [0, 1, 2, 3, 4, 5] rfl)
                        exact LC (n - k) k 0 _ _ ls (by omega) (by omega) (by omega) hP hD hS (lv_sub hl [0, 1, 3, 4, 5, 6] rfl)
                      · exact absurd ck11 (by decide)
                    · refine lv_iconst (v := nI 2) hx hb dX5_hunk_76 (by decide) ?_
                      refine lv_goto (tgt := 81) hx hb dX5_hunk_77 (by decide) ?_
                      refine va_put (D := (dC, dI)) (ci := 5) (v := .int (nI 2)) (ty := .int) (C := RX5) (T := TX5) (N := 19) hx hb hz hinX5 tyX5 tyX5_ok nmX5 hown hK hP hD hS 0 rfl rfl 0 (by decide) (hz _ zw_478) (fun _ h9 => h9) rfl (by decide +kernel) rfl rfl (Nat.le_of_ble_eq_true rfl) dX5_hunk_81 (fun H locs hP hD hS => ?_)
                      have hP : va_P (dC, dI) vwCl (([(am 0, .inr (5, [.int (nI 2), .ref (am 1), .ref (am 2), .ref (am 3), .int (nI n), .ref (am 4), .ref (am 5), .ref (am 6), .ref (am 7), .ref (am 8), .ref (am 9), .ref (am 10), .int en, .int cf, .ref (am 11), .ref (am 12), .ref (am 13), .ref (am 14), .ref (am 15)])), (am 4, .inl (cB, 240, .inl mk)), (am 5, .inl (cB, 240, .inl mf)), (am 6, .inl (cB, 240, .inl mg))] : va_W) ++ ([] : va_W)) H := hP
                      have hD : va_D A (([(am 0, .inr (5, [.int (nI 2), .ref (am 1), .ref (am 2), .ref (am 3), .int (nI n), .ref (am 4), .ref (am 5), .ref (am 6), .ref (am 7), .ref (am 8), .ref (am 9), .ref (am 10), .int en, .int cf, .ref (am 11), .ref (am 12), .ref (am 13), .ref (am 14), .ref (am 15)])), (am 4, .inl (cB, 240, .inl mk)), (am 5, .inl (cB, 240, .inl mf)), (am 6, .inl (cB, 240, .inl mg))] : va_W) ++ ([] : va_W)) := hD
                      refine lv_aload_n hx hb dX5_hunk_84 rfl (lv_at hl 2 rfl) ?_
                      refine va_get (D := (dC, dI)) (ci := 5) (v := .int (nI 2)) (C := RX5) (T := TX5) (N := 19) hx hb hz hinX5 hown hK hP 0 rfl rfl 0 (by decide) (hz _ zw_478) (fun _ h9 => h9) rfl dX5_hunk_85 ?_
                      refine lv_if_le (tgt := 93) hx hb dX5_hunk_88 (by decide) (fun ck28 => ?_) (fun ck28 => ?_)
                      · exact absurd ck28 (by decide)
                      · refine lv_iconst (v := nI 0) hx hb dX5_hunk_91 (by decide) ?_
                        exact hret H locs _ ([(am 0, .inr (5, [.int (nI 2), .ref (am 1), .ref (am 2), .ref (am 3), .int (nI n), .ref (am 4), .ref (am 5), .ref (am 6), .ref (am 7), .ref (am 8), .ref (am 9), .ref (am 10), .int en, .int cf, .ref (am 11), .ref (am 12), .ref (am 13), .ref (am 14), .ref (am 15)])), (am 4, .inl (cB, 240, .inl mk)), (am 5, .inl (cB, 240, .inl mf)), (am 6, .inl (cB, 240, .inl mg))] : va_W) _ ls hP hD hS dX5_hunk_92 (Or.inr (Or.inr ⟨hhk, sw_hi c7, rfl⟩))
                · have bb9 : ¬ (k < n) := fun h => bb9 ((nI_ltI (by omega) (by omega)).mpr h)
                  omega
            · have hz9 := z_nle0 (by omega) c4
              refine lv_iload hx hb dX5_hunk_26 (lv_at hl 0 rfl) ?_
              refine lv_aload_n hx hb dX5_hunk_28 rfl (lv_at hl 2 rfl) ?_
              refine lv_iload_n hx hb dX5_hunk_29 rfl (lv_at hl 1 rfl) ?_
              refine z_ciQ (wr := ([(am 5, .inl (cB, 240, .inl mf)), (am 6, .inl (cB, 240, .inl mg))] : va_W)) (cx := ([(am 0, .inr (5, [.int cd, .ref (am 1), .ref (am 2), .ref (am 3), .int (nI n), .ref (am 4), .ref (am 5), .ref (am 6), .ref (am 7), .ref (am 8), .ref (am 9), .ref (am 10), .int en, .int cf, .ref (am 11), .ref (am 12), .ref (am 13), .ref (am 14), .ref (am 15)])), (am 4, .inl (cB, 240, .inl mk))] : va_W)) hP hD hS hA [0, 1] [2, 3] rfl rfl (by decide) (by decide) (va_runV (As := [.int (nI k)]) (rest := [.int (nI (xn - hnk (ga 1) k))]) ⟨hx, hb, hml, hown, hz⟩ (c_M_opens l dC dI cI cS cB cZ am cd (nI n) en cf mk ga n hn hmk hki k (by omega) H.size) (cwV 1 hz (zgV zw_593 zw_595 zw_16 zw_27 zw_596) rfl rfl rfl (by decide +kernel) ⟨Nat.le_of_ble_eq_true rfl, Nat.le_of_ble_eq_true rfl⟩) ⟨zP_blind, z_recv hK hP (ci := 5) rfl rfl (q0 := 0) rfl, z_preQ hK hN hP hD [0, 1] rfl (by decide)⟩ rfl rfl hl.1 rfl (lv_room (Nat.le_of_ble_eq_true rfl)) dX5_hunk_30 ⟨Nat.le_of_ble_eq_true rfl, Nat.le_of_ble_eq_true rfl⟩) (fun vc3 w1 H locs hw hP hD hS => ?_)
              obtain ⟨hc3, hw⟩ := hw
              subst hw
              have hP : va_P (dC, dI) vwCl (([(am 5, .inl (cB, 240, .inl mf)), (am 6, .inl (cB, 240, .inl mg)), (am 0, .inr (5, [.int cd, .ref (am 1), .ref (am 2), .ref (am 3), .int (nI n), .ref (am 4), .ref (am 5), .ref (am 6), .ref (am 7), .ref (am 8), .ref (am 9), .ref (am 10), .int en, .int cf, .ref (am 11), .ref (am 12), .ref (am 13), .ref (am 14), .ref (am 15)])), (am 4, .inl (cB, 240, .inl mk))] : va_W) ++ ([] : va_W)) H := hP
              have hD : va_D A (([(am 5, .inl (cB, 240, .inl mf)), (am 6, .inl (cB, 240, .inl mg)), (am 0, .inr (5, [.int cd, .ref (am 1), .ref (am 2), .ref (am 3), .int (nI n), .ref (am 4), .ref (am 5), .ref (am 6), .ref (am 7), .ref (am 8), .ref (am 9), .ref (am 10), .int en, .int cf, .ref (am 11), .ref (am 12), .ref (am 13), .ref (am 14), .ref (am 15)])), (am 4, .inl (cB, 240, .inl mk))] : va_W) ++ ([] : va_W)) := hD
              have hP := z_permP (cx := ([(am 0, .inr (5, [.int cd, .ref (am 1), .ref (am 2), .ref (am 3), .int (nI n), .ref (am 4), .ref (am 5), .ref (am 6), .ref (am 7), .ref (am 8), .ref (am 9), .ref (am 10), .int en, .int cf, .ref (am 11), .ref (am 12), .ref (am 13), .ref (am 14), .ref (am 15)])), (am 4, .inl (cB, 240, .inl mk)), (am 5, .inl (cB, 240, .inl mf)), (am 6, .inl (cB, 240, .inl mg))] : va_W)) hP [2, 3, 0, 1] rfl
              have hD := z_permD (cx := ([(am 0, .inr (5, [.int cd, .ref (am 1), .ref (am 2), .ref (am 3), .int (nI n), .ref (am 4), .ref (am 5), .ref (am 6), .ref (am 7), .ref (am 8), .ref (am 9), .ref (am 10), .int en, .int cf, .ref (am 11), .ref (am 12), .ref (am 13), .ref (am 14), .ref (am 15)])), (am 4, .inl (cB, 240, .inl mk)), (am 5, .inl (cB, 240, .inl mf)), (am 6, .inl (cB, 240, .inl mg))] : va_W)) hD [2, 3, 0, 1] rfl (by decide)
              refine lv_if_eq (tgt := 40) hx hb dX5_hunk_33 (by decide) (fun c3 => ?_) (fun c3 => ?_)
              · have hopc3 : ¬ opn (ga 1) k := fun z => by rw [hc3, if_pos z] at c3; exact absurd c3 (by decide)
                exact absurd hopc2 hopc3
              · have hopc3 : opn (ga 1) k := by by_cases z : opn (ga 1) k; exact z; exact absurd (by rw [hc3, if_neg z]) c3
                refine lv_iconst (v := nI 1) hx hb dX5_hunk_36 (by decide) ?_
                refine lv_goto (tgt := 41) hx hb dX5_hunk_37 (by decide) ?_
                refine t_isub hx hb dX5_hunk_41 (show nI (xn - hnk (ga 1) k) - nI 1 = nI ((xn - hnk (ga 1) k) - 1) from (pk_sub (by omega))) ?_
                refine lv_istore (lv' := [(4, .int (nI ((xn - hnk (ga 1) k) - 1))), (3, .int (nI k)), (0, .ref (am 0)), (1, .int (nI xn)), (2, .int y)]) hx hb dX5_hunk_42 hl (by decide) rfl (fun ls hl => ?_)
                refine lv_iinc (v := nI (k + 1)) (lv' := [(3, .int (nI (k + 1))), (4, .int (nI ((xn - hnk (ga 1) k) - 1))), (0, .ref (am 0)), (1, .int (nI xn)), (2, .int y)]) hx hb dX5_hunk_44 hl (k := 1) rfl (show nI k + 1 = nI (k + 1) from nI_1 _) (by decide) rfl (fun ls hl => ?_)
                refine lv_goto (tgt := 5) hx hb dX5_hunk_47 (by decide) ?_
                exact ih (k + 1) _ _ ls (by omega) (by rw [hnk_yes hopc2]; omega) (lt_s hpr (fun _ => by omega)) hP hD hS (by rw [hnk_yes hopc2, show xn - (hnk (ga 1) k + 1) = xn - hnk (ga 1) k - 1 by omega]; exact (lv_sub hl [1, 0, 2, 3, 4] rfl))
    exact LB n 0 _ _ ls (by omega) (Nat.zero_le _) (fun j h => absurd h (Nat.not_lt_zero j)) hP hD hS (lv_sub hl [0, 1, 2, 3, 4] rfl)

set_option maxHeartbeats 4000000 in
set_option maxRecDepth 100000 in
theorem c_M_hunk0 (l : Launch) (dC : Nat → ClassId) (dI : Nat → Nat → Nat) (cI cS cB cZ : ClassId) (am : Nat → Nat) (cd st en cf : Int32) (mk mf mg : Nat → Int32) (x y : Int32) : zI l (dC, dI) vwCl (zTm cI cS cB cZ) zNW yX5_hunk wsX5_hunk rm_X5_hunk [.ref (am 0), .int x, .int y] ([(am 0, .inr (5, [.int cd, .ref (am 1), .ref (am 2), .ref (am 3), .int (-1), .ref (am 4), .ref (am 5), .ref (am 6), .ref (am 7), .ref (am 8), .ref (am 9), .ref (am 10), .int en, .int cf, .ref (am 11), .ref (am 12), .ref (am 13), .ref (am 14), .ref (am 15)])), (am 4, .inl (cB, 240, .inl mk)), (am 5, .inl (cB, 240, .inl mf)), (am 6, .inl (cB, 240, .inl mg))] : va_W) (fun z w => w = ([(am 0, .inr (5, [.int (nI 1), .ref (am 1), .ref (am 2), .ref (am 3), .int (-1), .ref (am 4), .ref (am 5), .ref (am 6), .ref (am 7), .ref (am 8), .ref (am 9), .ref (am 10), .int en, .int cf, .ref (am 11), .ref (am 12), .ref (am 13), .ref (am 14), .ref (am 15)])), (am 4, .inl (cB, 240, .inl mk)), (am 5, .inl (cB, 240, .inl mf)), (am 6, .inl (cB, 240, .inl mg))] : va_W)) := by
  refine z_ofI (cc := cX5_hunk) (maxL := 7) (Or.inl rfl) (by decide) rfl (Nat.le_of_ble_eq_true rfl) ?_
  intro p e s m args below meth c A Q ls hI hret
  obtain ⟨hx, hb, hml, hown, hts, hnm, hA, hK, hN, hP, hD, hS, hl⟩ := hI
  have hown : s.vm.findClass RX5 = some m.cls := hown
  have hl : lv_has ls 7 [(0, .ref (am 0)), (1, .int x), (2, .int y)] := hl
  have hP : va_P (dC, dI) vwCl (([(am 0, .inr (5, [.int cd, .ref (am 1), .ref (am 2), .ref (am 3), .int (-1), .ref (am 4), .ref (am 5), .ref (am 6), .ref (am 7), .ref (am 8), .ref (am 9), .ref (am 10), .int en, .int cf, .ref (am 11), .ref (am 12), .ref (am 13), .ref (am 14), .ref (am 15)])), (am 4, .inl (cB, 240, .inl mk)), (am 5, .inl (cB, 240, .inl mf)), (am 6, .inl (cB, 240, .inl mg))] : va_W) ++ ([] : va_W)) s.heap := hP
  have hD : va_D A (([(am 0, .inr (5, [.int cd, .ref (am 1), .ref (am 2), .ref (am 3), .int (-1), .ref (am 4), .ref (am 5), .ref (am 6), .ref (am 7), .ref (am 8), .ref (am 9), .ref (am 10), .int en, .int cf, .ref (am 11), .ref (am 12), .ref (am 13), .ref (am 14), .ref (am 15)])), (am 4, .inl (cB, 240, .inl mk)), (am 5, .inl (cB, 240, .inl mf)), (am 6, .inl (cB, 240, .inl mg))] : va_W) ++ ([] : va_W)) := hD
  have hz : ∀ w ∈ zW, w.before args s = true := fun w h => hts w (List.mem_cons_of_mem _ h)
  refine lv_iconst (v := nI 0) hx hb dX5_hunk_0 (by decide) ?_
  refine lv_istore_n (lv' := [(3, .int (nI 0)), (0, .ref (am 0)), (1, .int x), (2, .int y)]) hx hb dX5_hunk_1 rfl hl (by decide) rfl (fun ls hl => ?_)
  refine lv_iload_n hx hb dX5_hunk_2 rfl (lv_at hl 2 rfl) ?_
  refine lv_istore (lv' := [(4, .int x), (3, .int (nI 0)), (0, .ref (am 0)), (1, .int x), (2, .int y)]) hx hb dX5_hunk_3 hl (by decide) rfl (fun ls hl => ?_)
  refine lv_iload_n hx hb dX5_hunk_5 rfl (lv_at hl 1 rfl) ?_
  refine lv_aload_n hx hb dX5_hunk_6 rfl (lv_at hl 2 rfl) ?_
  refine va_get (D := (dC, dI)) (ci := 5) (v := .int (-1)) (C := RX5) (T := TX5) (N := 19) hx hb hz hinX5 hown hK hP 0 rfl rfl 4 (by decide) (hz _ zw_482) (fun _ h9 => h9) rfl dX5_hunk_7 ?_
  refine lv_icmp_ge (tgt := 50) hx hb dX5_hunk_10 (by decide) (fun ck1 => ?_) (fun ck1 => ?_)
  · refine lv_aload_n hx hb dX5_hunk_50 rfl (lv_at hl 2 rfl) ?_
    refine lv_iload_n hx hb dX5_hunk_51 rfl (lv_at hl 3 rfl) ?_
    refine lv_if_lt (tgt := 63) hx hb dX5_hunk_52 (by decide) (fun c1 => ?_) (fun c1 => ?_)
    · refine lv_iconst (v := nI 1) hx hb dX5_hunk_63 (by decide) ?_
      refine lv_goto (tgt := 81) hx hb dX5_hunk_64 (by decide) ?_
      refine va_put (D := (dC, dI)) (ci := 5) (v := .int (nI 1)) (ty := .int) (C := RX5) (T := TX5) (N := 19) hx hb hz hinX5 tyX5 tyX5_ok nmX5 hown hK hP hD hS 0 rfl rfl 0 (by decide) (hz _ zw_478) (fun _ h9 => h9) rfl (by decide +kernel) rfl rfl (Nat.le_of_ble_eq_true rfl) dX5_hunk_81 (fun H locs hP hD hS => ?_)
      have hP : va_P (dC, dI) vwCl (([(am 0, .inr (5, [.int (nI 1), .ref (am 1), .ref (am 2), .ref (am 3), .int (-1), .ref (am 4), .ref (am 5), .ref (am 6), .ref (am 7), .ref (am 8), .ref (am 9), .ref (am 10), .int en, .int cf, .ref (am 11), .ref (am 12), .ref (am 13), .ref (am 14), .ref (am 15)])), (am 4, .inl (cB, 240, .inl mk)), (am 5, .inl (cB, 240, .inl mf)), (am 6, .inl (cB, 240, .inl mg))] : va_W) ++ ([] : va_W)) H := hP
      have hD : va_D A (([(am 0, .inr (5, [.int (nI 1), .ref (am 1), .ref (am 2), .ref (am 3), .int (-1), .ref (am 4), .ref (am 5), .ref (am 6), .ref (am 7), .ref (am 8), .ref (am 9), .ref (am 10), .int en, .int cf, .ref (am 11), .ref (am 12), .ref (am 13), .ref (am 14), .ref (am 15)])), (am 4, .inl (cB, 240, .inl mk)), (am 5, .inl (cB, 240, .inl mf)), (am 6, .inl (cB, 240, .inl mg))] : va_W) ++ ([] : va_W)) := hD
      refine lv_aload_n hx hb dX5_hunk_84 rfl (lv_at hl 2 rfl) ?_
      refine va_get (D := (dC, dI)) (ci := 5) (v := .int (nI 1)) (C := RX5) (T := TX5) (N := 19) hx hb hz hinX5 hown hK hP 0 rfl rfl 0 (by decide) (hz _ zw_478) (fun _ h9 => h9) rfl dX5_hunk_85 ?_
      refine lv_if_le (tgt := 93) hx hb dX5_hunk_88 (by decide) (fun ck2 => ?_) (fun ck2 => ?_)
      · exact absurd ck2 (by decide)
      · refine lv_iconst (v := nI 0) hx hb dX5_hunk_91 (by decide) ?_
        exact hret H locs _ ([(am 0, .inr (5, [.int (nI 1), .ref (am 1), .ref (am 2), .ref (am 3), .int (-1), .ref (am 4), .ref (am 5), .ref (am 6), .ref (am 7), .ref (am 8), .ref (am 9), .ref (am 10), .int en, .int cf, .ref (am 11), .ref (am 12), .ref (am 13), .ref (am 14), .ref (am 15)])), (am 4, .inl (cB, 240, .inl mk)), (am 5, .inl (cB, 240, .inl mf)), (am 6, .inl (cB, 240, .inl mg))] : va_W) _ ls hP hD hS dX5_hunk_92 rfl
    · refine lv_iload_n hx hb dX5_hunk_55 rfl (lv_at hl 1 rfl) ?_
      refine lv_aload_n hx hb dX5_hunk_56 rfl (lv_at hl 2 rfl) ?_
      refine va_get (D := (dC, dI)) (ci := 5) (v := .int (-1)) (C := RX5) (T := TX5) (N := 19) hx hb hz hinX5 hown hK hP 0 rfl rfl 4 (by decide) (hz _ zw_482) (fun _ h9 => h9) rfl dX5_hunk_57 ?_
      refine lv_icmp_lt (tgt := 67) hx hb dX5_hunk_60 (by decide) (fun ck3 => ?_) (fun ck3 => ?_)
      · exact absurd ck3 (by decide)
      · refine lv_iconst (v := nI 1) hx hb dX5_hunk_63 (by decide) ?_
        refine lv_goto (tgt := 81) hx hb dX5_hunk_64 (by decide) ?_
        refine va_put (D := (dC, dI)) (ci := 5) (v := .int (nI 1)) (ty := .int) (C := RX5) (T := TX5) (N := 19) hx hb hz hinX5 tyX5 tyX5_ok nmX5 hown hK hP hD hS 0 rfl rfl 0 (by decide) (hz _ zw_478) (fun _ h9 => h9) rfl (by decide +kernel) rfl rfl (Nat.le_of_ble_eq_true rfl) dX5_hunk_81 (fun H locs hP hD hS => ?_)
        have hP : va_P (dC, dI) vwCl (([(am 0, .inr (5, [.int (nI 1), .ref (am 1), .ref (am 2), .ref (am 3), .int (-1), .ref (am 4), .ref (am 5), .ref (am 6), .ref (am 7), .ref (am 8), .ref (am 9), .ref (am 10), .int en, .int cf, .ref (am 11), .ref (am 12), .ref (am 13), .ref (am 14), .ref (am 15)])), (am 4, .inl (cB, 240, .inl mk)), (am 5, .inl (cB, 240, .inl mf)), (am 6, .inl (cB, 240, .inl mg))] : va_W) ++ ([] : va_W)) H := hP
        have hD : va_D A (([(am 0, .inr (5, [.int (nI 1), .ref (am 1), .ref (am 2), .ref (am 3), .int (-1), .ref (am 4), .ref (am 5), .ref (am 6), .ref (am 7), .ref (am 8), .ref (am 9), .ref (am 10), .int en, .int cf, .ref (am 11), .ref (am 12), .ref (am 13), .ref (am 14), .ref (am 15)])), (am 4, .inl (cB, 240, .inl mk)), (am 5, .inl (cB, 240, .inl mf)), (am 6, .inl (cB, 240, .inl mg))] : va_W) ++ ([] : va_W)) := hD
        refine lv_aload_n hx hb dX5_hunk_84 rfl (lv_at hl 2 rfl) ?_
        refine va_get (D := (dC, dI)) (ci := 5) (v := .int (nI 1)) (C := RX5) (T := TX5) (N := 19) hx hb hz hinX5 hown hK hP 0 rfl rfl 0 (by decide) (hz _ zw_478) (fun _ h9 => h9) rfl dX5_hunk_85 ?_
        refine lv_if_le (tgt := 93) hx hb dX5_hunk_88 (by decide) (fun ck4 => ?_) (fun ck4 => ?_)
        · exact absurd ck4 (by decide)
        · refine lv_iconst (v := nI 0) hx hb dX5_hunk_91 (by decide) ?_
          exact hret H locs _ ([(am 0, .inr (5, [.int (nI 1), .ref (am 1), .ref (am 2), .ref (am 3), .int (-1), .ref (am 4), .ref (am 5), .ref (am 6), .ref (am 7), .ref (am 8), .ref (am 9), .ref (am 10), .int en, .int cf, .ref (am 11), .ref (am 12), .ref (am 13), .ref (am 14), .ref (am 15)])), (am 4, .inl (cB, 240, .inl mk)), (am 5, .inl (cB, 240, .inl mf)), (am 6, .inl (cB, 240, .inl mg))] : va_W) _ ls hP hD hS dX5_hunk_92 rfl
  · exact absurd ck1 (by decide)

abbrev rm_X5_store : Room := { frames := 0, cells := 0, slots := 0, locals := 0 }
set_option maxHeartbeats 4000000 in
set_option maxRecDepth 100000 in
theorem c_M_store (l : Launch) (dC : Nat → ClassId) (dI : Nat → Nat → Nat) (cI cS cB cZ : ClassId) (am : Nat → Nat) (cd st en cf : Int32) (sz rr md : Nat → Int32) (r n : Nat) (hr : r < 8) (hn : n ≤ 120) : zV l (dC, dI) vwCl (zTm cI cS cB cZ) zNW yX5_store wsX5_store rm_X5_store [.ref (am 0), .int (nI r), .int (nI n)] ([(am 0, .inr (5, [.int cd, .ref (am 1), .ref (am 2), .ref (am 3), .int st, .ref (am 4), .ref (am 5), .ref (am 6), .ref (am 7), .ref (am 8), .ref (am 9), .ref (am 10), .int en, .int cf, .ref (am 11), .ref (am 12), .ref (am 13), .ref (am 14), .ref (am 15)])), (am 1, .inl (cI, 8, .inl sz)), (am 2, .inl (cI, 960, .inl rr)), (am 15, .inl (cI, 330, .inl md))] : va_W) (fun w => ∃ rr' : Nat → Int32, (∀ j, j < n → rr' (120 * r + j) = md j) ∧ (∀ q, q < 120 * r ∨ 120 * r + 120 ≤ q → rr' q = rr q) ∧ w = ([(am 0, .inr (5, [.int cd, .ref (am 1), .ref (am 2), .ref (am 3), .int st, .ref (am 4), .ref (am 5), .ref (am 6), .ref (am 7), .ref (am 8), .ref (am 9), .ref (am 10), .int en, .int cf, .ref (am 11), .ref (am 12), .ref (am 13), .ref (am 14), .ref (am 15)])), (am 1, .inl (cI, 8, .inl (upd sz r (nI n)))), (am 2, .inl (cI, 960, .inl rr')), (am 15, .inl (cI, 330, .inl md))] : va_W)) := by
  refine z_ofV (cc := cX5_store) (maxL := 4) (by decide) rfl (Nat.le_of_ble_eq_true rfl) ?_
  intro p e s m args below meth c A Q ls hI hret
  obtain ⟨hx, hb, hml, hown, hts, hnm, hA, hK, hN, hP, hD, hS, hl⟩ := hI
  have hown : s.vm.findClass RX5 = some m.cls := hown
  have hl : lv_has ls 4 [(0, .ref (am 0)), (1, .int (nI r)), (2, .int (nI n))] := hl
  have hP : va_P (dC, dI) vwCl (([(am 0, .inr (5, [.int cd, .ref (am 1), .ref (am 2), .ref (am 3), .int st, .ref (am 4), .ref (am 5), .ref (am 6), .ref (am 7), .ref (am 8), .ref (am 9), .ref (am 10), .int en, .int cf, .ref (am 11), .ref (am 12), .ref (am 13), .ref (am 14), .ref (am 15)])), (am 1, .inl (cI, 8, .inl sz)), (am 2, .inl (cI, 960, .inl rr)), (am 15, .inl (cI, 330, .inl md))] : va_W) ++ ([] : va_W)) s.heap := hP
  have hD : va_D A (([(am 0, .inr (5, [.int cd, .ref (am 1), .ref (am 2), .ref (am 3), .int st, .ref (am 4), .ref (am 5), .ref (am 6), .ref (am 7), .ref (am 8), .ref (am 9), .ref (am 10), .int en, .int cf, .ref (am 11), .ref (am 12), .ref (am 13), .ref (am 14), .ref (am 15)])), (am 1, .inl (cI, 8, .inl sz)), (am 2, .inl (cI, 960, .inl rr)), (am 15, .inl (cI, 330, .inl md))] : va_W) ++ ([] : va_W)) := hD
  have hz : ∀ w ∈ zW, w.before args s = true := fun w h => hts w (List.mem_cons_of_mem _ h)
  refine lv_iconst (v := nI 0) hx hb dX5_store_0 (by decide) ?_
  refine lv_istore_n (lv' := [(3, .int (nI 0)), (0, .ref (am 0)), (1, .int (nI r)), (2, .int (nI n))]) hx hb dX5_store_1 rfl hl (by decide) rfl (fun ls hl => ?_)
  have L1 : ∀ (d : Nat) (k : Nat) (rr1 : Nat → Int32) (H : Heap) (locs : List Loc) (ls : Array Slot), k + d = n → (∀ j, j < k → rr1 (120 * r + j) = md j) → (∀ q, q < 120 * r ∨ 120 * r + 120 ≤ q → rr1 q = rr q) → va_P (dC, dI) vwCl (([(am 0, .inr (5, [.int cd, .ref (am 1), .ref (am 2), .ref (am 3), .int st, .ref (am 4), .ref (am 5), .ref (am 6), .ref (am 7), .ref (am 8), .ref (am 9), .ref (am 10), .int en, .int cf, .ref (am 11), .ref (am 12), .ref (am 13), .ref (am 14), .ref (am 15)])), (am 1, .inl (cI, 8, .inl sz)), (am 2, .inl (cI, 960, .inl rr1)), (am 15, .inl (cI, 330, .inl md))] : va_W) ++ ([] : va_W)) H → va_D A (([(am 0, .inr (5, [.int cd, .ref (am 1), .ref (am 2), .ref (am 3), .int st, .ref (am 4), .ref (am 5), .ref (am 6), .ref (am 7), .ref (am 8), .ref (am 9), .ref (am 10), .int en, .int cf, .ref (am 11), .ref (am 12), .ref (am 13), .ref (am 14), .ref (am 15)])), (am 1, .inl (cI, 8, .inl sz)), (am 2, .inl (cI, 960, .inl rr1)), (am 15, .inl (cI, 330, .inl md))] : va_W) ++ ([] : va_W)) → va_S A s.heap H locs → lv_has ls 4 [(3, .int (nI k)), (0, .ref (am 0)), (1, .int (nI r)), (2, .int (nI n))] → W p l e rm_X5_store s m args below meth c H locs 0 0 Q (F0 m 2 ls []) := by
    intro d
    induction d with
    | zero =>
      intro k rr1 H locs ls hk h1 h2 hP hD hS hl
      have hk : k = n := hk
      refine lv_iload_n hx hb dX5_store_2 rfl (lv_at hl 0 rfl) ?_
      refine lv_iload_n hx hb dX5_store_3 rfl (lv_at hl 3 rfl) ?_
      refine lv_icmp_ge (tgt := 30) hx hb dX5_store_4 (by decide) (fun bb1 => ?_) (fun bb1 => ?_)
      · have bb1 : n ≤ k := (nI_leI (by omega) (by omega)).mp bb1
        refine lv_aload_n hx hb dX5_store_30 rfl (lv_at hl 1 rfl) ?_
        refine va_get (D := (dC, dI)) (ci := 5) (v := .ref (am 1)) (C := RX5) (T := TX5) (N := 19) hx hb hz hinX5 hown hK hP 0 rfl rfl 1 (by decide) (hz _ zw_479) (fun _ h9 => h9) rfl dX5_store_31 ?_
        refine lv_iload_n hx hb dX5_store_34 rfl (lv_at hl 2 rfl) ?_
        refine lv_iload_n hx hb dX5_store_35 rfl (lv_at hl 3 rfl) ?_
        refine z_iast hx hb hK hP hD hS 1 0 rfl rfl (k := r) hr (by omega) dX5_store_36 (fun H locs hP hD hS => ?_)
        have hP : va_P (dC, dI) vwCl (([(am 0, .inr (5, [.int cd, .ref (am 1), .ref (am 2), .ref (am 3), .int st, .ref (am 4), .ref (am 5), .ref (am 6), .ref (am 7), .ref (am 8), .ref (am 9), .ref (am 10), .int en, .int cf, .ref (am 11), .ref (am 12), .ref (am 13), .ref (am 14), .ref (am 15)])), (am 1, .inl (cI, 8, .inl (upd sz r (nI n)))), (am 2, .inl (cI, 960, .inl rr1)), (am 15, .inl (cI, 330, .inl md))] : va_W) ++ ([] : va_W)) H := hP
        have hD : va_D A (([(am 0, .inr (5, [.int cd, .ref (am 1), .ref (am 2), .ref (am 3), .int st, .ref (am 4), .ref (am 5), .ref (am 6), .ref (am 7), .ref (am 8), .ref (am 9), .ref (am 10), .int en, .int cf, .ref (am 11), .ref (am 12), .ref (am 13), .ref (am 14), .ref (am 15)])), (am 1, .inl (cI, 8, .inl (upd sz r (nI n)))), (am 2, .inl (cI, 960, .inl rr1)), (am 15, .inl (cI, 330, .inl md))] : va_W) ++ ([] : va_W)) := hD
        exact hret H locs ([(am 0, .inr (5, [.int cd, .ref (am 1), .ref (am 2), .ref (am 3), .int st, .ref (am 4), .ref (am 5), .ref (am 6), .ref (am 7), .ref (am 8), .ref (am 9), .ref (am 10), .int en, .int cf, .ref (am 11), .ref (am 12), .ref (am 13), .ref (am 14), .ref (am 15)])), (am 1, .inl (cI, 8, .inl (upd sz r (nI n)))), (am 2, .inl (cI, 960, .inl rr1)), (am 15, .inl (cI, 330, .inl md))] : va_W) _ ls hP hD hS dX5_store_37 ⟨rr1, by rw [← hk]; exact h1, h2, rfl⟩
      · have bb1 : ¬ (n ≤ k) := fun h => bb1 ((nI_leI (by omega) (by omega)).mpr h)
        omega
    | succ d ih =>
      intro k rr1 H locs ls hk h1 h2 hP hD hS hl
      refine lv_iload_n hx hb dX5_store_2 rfl (lv_at hl 0 rfl) ?_
      refine lv_iload_n hx hb dX5_store_3 rfl (lv_at hl 3 rfl) ?_
      refine lv_icmp_ge (tgt := 30) hx hb dX5_store_4 (by decide) (fun bb2 => ?_) (fun bb2 => ?_)
      · have bb2 : n ≤ k := (nI_leI (by omega) (by omega)).mp bb2
        omega
      · have bb2 : ¬ (n ≤ k) := fun h => bb2 ((nI_leI (by omega) (by omega)).mpr h)
        refine lv_aload_n hx hb dX5_store_7 rfl (lv_at hl 1 rfl) ?_
        refine va_get (D := (dC, dI)) (ci := 5) (v := .ref (am 2)) (C := RX5) (T := TX5) (N := 19) hx hb hz hinX5 hown hK hP 0 rfl rfl 2 (by decide) (hz _ zw_480) (fun _ h9 => h9) rfl dX5_store_8 ?_
        refine lv_bipush (v := nI 120) hx hb dX5_store_11 (by decide) ?_
        refine lv_iload_n hx hb dX5_store_13 rfl (lv_at hl 2 rfl) ?_
        refine t_imul hx hb dX5_store_14 (show nI 120 * nI r = nI (120 * r) from (pk_mul _ _)) ?_
        refine lv_iload_n hx hb dX5_store_15 rfl (lv_at hl 0 rfl) ?_
        refine t_iadd hx hb dX5_store_16 (show nI (120 * r) + nI k = nI (120 * r + k) from (nI_add _ _)) ?_
        refine lv_aload_n hx hb dX5_store_17 rfl (lv_at hl 1 rfl) ?_
        refine va_get (D := (dC, dI)) (ci := 5) (v := .ref (am 15)) (C := RX5) (T := TX5) (N := 19) hx hb hz hinX5 hown hK hP 0 rfl rfl 18 (by decide) (hz _ zw_496) (fun _ h9 => h9) rfl dX5_store_18 ?_
        refine lv_iload_n hx hb dX5_store_21 rfl (lv_at hl 0 rfl) ?_
        refine z_iald (v := md k) hx hb hK hP 3 0 rfl rfl (k := k) (by omega) (by omega) rfl dX5_store_22 ?_
        refine z_iast hx hb hK hP hD hS 2 0 rfl rfl (k := (120 * r + k)) (by omega) (by omega) dX5_store_23 (fun H locs hP hD hS => ?_)
        have hP : va_P (dC, dI) vwCl (([(am 0, .inr (5, [.int cd, .ref (am 1), .ref (am 2), .ref (am 3), .int st, .ref (am 4), .ref (am 5), .ref (am 6), .ref (am 7), .ref (am 8), .ref (am 9), .ref (am 10), .int en, .int cf, .ref (am 11), .ref (am 12), .ref (am 13), .ref (am 14), .ref (am 15)])), (am 1, .inl (cI, 8, .inl sz)), (am 2, .inl (cI, 960, .inl (upd rr1 (120 * r + k) (md k)))), (am 15, .inl (cI, 330, .inl md))] : va_W) ++ ([] : va_W)) H := hP
        have hD : va_D A (([(am 0, .inr (5, [.int cd, .ref (am 1), .ref (am 2), .ref (am 3), .int st, .ref (am 4), .ref (am 5), .ref (am 6), .ref (am 7), .ref (am 8), .ref (am 9), .ref (am 10), .int en, .int cf, .ref (am 11), .ref (am 12), .ref (am 13), .ref (am 14), .ref (am 15)])), (am 1, .inl (cI, 8, .inl sz)), (am 2, .inl (cI, 960, .inl (upd rr1 (120 * r + k) (md k)))), (am 15, .inl (cI, 330, .inl md))] : va_W) ++ ([] : va_W)) := hD
        refine lv_iinc (v := nI (k + 1)) (lv' := [(3, .int (nI (k + 1))), (0, .ref (am 0)), (1, .int (nI r)), (2, .int (nI n))]) hx hb dX5_store_24 hl (k := 0) rfl (show nI k + 1 = nI (k + 1) from nI_1 _) (by decide) rfl (fun ls hl => ?_)
        refine lv_goto (tgt := 2) hx hb dX5_store_27 (by decide) ?_
        exact ih (k + 1) _ _ _ ls (by omega) (fun j hj => by by_cases e9 : j = k; (rw [e9, pk_us]); (rw [pk_un (by omega)]; exact h1 j (by omega))) (fun q hq => by rw [pk_un (by omega)]; exact h2 q hq) hP hD hS (lv_sub hl [0, 1, 2, 3] rfl)
  exact L1 n 0 rr _ _ ls (by omega) (fun j h => absurd h (Nat.not_lt_zero j)) (fun q _ => rfl) hP hD hS (lv_sub hl [0, 1, 2, 3] rfl)
