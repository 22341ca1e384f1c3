abbrev rm_X5_measure : Room := { frames := 1, cells := 0, slots := 0, locals := 24 }
set_option maxHeartbeats 4000000 in
set_option maxRecDepth 100000 in
theorem c_M_measure (l : Launch) (dC : Nat → ClassId) (dI : Nat → Nat → Nat) (cI cS cB cZ : ClassId) (am : Nat → Nat) (cd st en cf : Int32) (sz rr co : Nat → Int32) (ns : Nat → Nat) (fs : Nat → Nat → Int32) (hns : ∀ r, r < 8 → ns r ≤ 120) (hsz : mSz ns sz) (hrw : mRw ns fs rr) (a b : Nat) (ha : a < 8) (hb9 : b < 8) : zI l (dC, dI) vwCl (zTm cI cS cB cZ) zNW yX5_measure wsX5_measure rm_X5_measure [.ref (am 0), .int (nI a), .int (nI b)] ([(am 0, .inr (5, [.int cd, .ref (am 1), .ref (am 2), .ref (am 3), .int st, .ref (am 4), .ref (am 5), .ref (am 6), .ref (am 7), .ref (am 8), .ref (am 9), .ref (am 10), .int en, .int cf, .ref (am 11), .ref (am 12), .ref (am 13), .ref (am 14), .ref (am 15)])), (am 1, .inl (cI, 8, .inl sz)), (am 2, .inl (cI, 960, .inl rr)), (am 3, .inl (cS, 14641, .inl co))] : va_W) (fun z w => z = nI (dc (fs a) (fs b) (ns a) (ns b) 0 0) ∧ ∃ co' : Nat → Int32, mCo (fs a) (fs b) (ns a) (ns b) co' ∧ w = ([(am 0, .inr (5, [.int cd, .ref (am 1), .ref (am 2), .ref (am 3), .int st, .ref (am 4), .ref (am 5), .ref (am 6), .ref (am 7), .ref (am 8), .ref (am 9), .ref (am 10), .int en, .int cf, .ref (am 11), .ref (am 12), .ref (am 13), .ref (am 14), .ref (am 15)])), (am 1, .inl (cI, 8, .inl sz)), (am 2, .inl (cI, 960, .inl rr)), (am 3, .inl (cS, 14641, .inl co'))] : va_W)) := by
  refine z_ofI (cc := cX5_measure) (maxL := 8) (Or.inl rfl) (by decide) rfl (Nat.le_of_ble_eq_true rfl) ?_
  intro p e s m args below meth c A Q ls hI hret
  obtain ⟨hx, hb, hml, hown, hts, hnm, hA, hK, hN, hP, hD, hS, hl⟩ := hI
  have hown : s.vm.findClass RX5 = some m.cls := hown
  have hl : lv_has ls 8 [(0, .ref (am 0)), (1, .int (nI a)), (2, .int (nI b))] := hl
  have hP : va_P (dC, dI) vwCl (([(am 0, .inr (5, [.int cd, .ref (am 1), .ref (am 2), .ref (am 3), .int st, .ref (am 4), .ref (am 5), .ref (am 6), .ref (am 7), .ref (am 8), .ref (am 9), .ref (am 10), .int en, .int cf, .ref (am 11), .ref (am 12), .ref (am 13), .ref (am 14), .ref (am 15)])), (am 1, .inl (cI, 8, .inl sz)), (am 2, .inl (cI, 960, .inl rr)), (am 3, .inl (cS, 14641, .inl co))] : va_W) ++ ([] : va_W)) s.heap := hP
  have hD : va_D A (([(am 0, .inr (5, [.int cd, .ref (am 1), .ref (am 2), .ref (am 3), .int st, .ref (am 4), .ref (am 5), .ref (am 6), .ref (am 7), .ref (am 8), .ref (am 9), .ref (am 10), .int en, .int cf, .ref (am 11), .ref (am 12), .ref (am 13), .ref (am 14), .ref (am 15)])), (am 1, .inl (cI, 8, .inl sz)), (am 2, .inl (cI, 960, .inl rr)), (am 3, .inl (cS, 14641, .inl co))] : va_W) ++ ([] : va_W)) := hD
  have hz : ∀ w ∈ zW, w.before args s = true := fun w h => hts w (List.mem_cons_of_mem _ h)
  have q1 := hns a ha
  have q2 := hns b hb9
  have hdl := fun (p q : Nat) => dc_le (F := fs a) (G := fs b) (na := ns a) (nb := ns b) (i := p) (j := q)
  refine lv_aload_n hx hb dX5_measure_0 rfl (lv_at hl 0 rfl) ?_
  refine va_get (D := (dC, dI)) (ci := 5) (v := .ref (am 1)) (C := RX5) (T := TX5) (N := 19) hx hb hz hinX5 hown hK hP 0 rfl rfl 1 (by decide) (hz _ zw_479) (fun _ h9 => h9) rfl dX5_measure_1 ?_
  refine lv_iload_n hx hb dX5_measure_4 rfl (lv_at hl 1 rfl) ?_
  refine z_iald (v := nI (ns a)) hx hb hK hP 1 0 rfl rfl (k := a) ha (by omega) (hsz a ha) dX5_measure_5 ?_
  refine lv_istore_n (lv' := [(3, .int (nI (ns a))), (0, .ref (am 0)), (1, .int (nI a)), (2, .int (nI b))]) hx hb dX5_measure_6 rfl hl (by decide) rfl (fun ls hl => ?_)
  have LA : ∀ (d : Nat) (co1 : Nat → Int32) (H : Heap) (locs : List Loc) (ls : Array Slot), d ≤ ns a + 1 → (∀ i j, d ≤ i → i ≤ ns a → j ≤ ns b → co1 (121 * i + j) = nI (dc (fs a) (fs b) (ns a) (ns b) i j)) → va_P (dC, dI) vwCl (([(am 0, .inr (5, [.int cd, .ref (am 1), .ref (am 2), .ref (am 3), .int st, .ref (am 4), .ref (am 5), .ref (am 6), .ref (am 7), .ref (am 8), .ref (am 9), .ref (am 10), .int en, .int cf, .ref (am 11), .ref (am 12), .ref (am 13), .ref (am 14), .ref (am 15)])), (am 1, .inl (cI, 8, .inl sz)), (am 2, .inl (cI, 960, .inl rr)), (am 3, .inl (cS, 14641, .inl co1))] : va_W) ++ ([] : va_W)) H → va_D A (([(am 0, .inr (5, [.int cd, .ref (am 1), .ref (am 2), .ref (am 3), .int st, .ref (am 4), .ref (am 5), .ref (am 6), .ref (am 7), .ref (am 8), .ref (am 9), .ref (am 10), .int en, .int cf, .ref (am 11), .ref (am 12), .ref (am 13), .ref (am 14), .ref (am 15)])), (am 1, .inl (cI, 8, .inl sz)), (am 2, .inl (cI, 960, .inl rr)), (am 3, .inl (cS, 14641, .inl co1))] : va_W) ++ ([] : va_W)) → va_S A s.heap H locs → lv_has ls 8 [(3, .int (nI d - nI 1)), (0, .ref (am 0)), (1, .int (nI a)), (2, .int (nI b))] → W p l e rm_X5_measure s m args below meth c H locs 0 0 Q (F0 m 7 ls []) := by
    intro d
    induction d with
    | zero =>
      intro co1 H locs ls hd hv hP hD hS hl
      refine lv_iload_n hx hb dX5_measure_7 rfl (lv_at hl 0 rfl) ?_
      refine lv_if_lt (tgt := 189) hx hb dX5_measure_8 (by decide) (fun c1 => ?_) (fun c1 => ?_)
      · refine lv_aload_n hx hb dX5_measure_189 rfl (lv_at hl 1 rfl) ?_
        refine va_get (D := (dC, dI)) (ci := 5) (v := .ref (am 3)) (C := RX5) (T := TX5) (N := 19) hx hb hz hinX5 hown hK hP 0 rfl rfl 3 (by decide) (hz _ zw_481) (fun _ h9 => h9) rfl dX5_measure_190 ?_
        refine lv_iconst (v := nI 0) hx hb dX5_measure_193 (by decide) ?_
        refine z_sald (v := nI (dc (fs a) (fs b) (ns a) (ns b) 0 0)) hx hb hK hP 3 1 rfl rfl (k := 0) (by omega) (by omega) (hv 0 0 (by omega) (by omega) (by omega)) dX5_measure_194 ?_
        exact hret H locs _ ([(am 0, .inr (5, [.int cd, .ref (am 1), .ref (am 2), .ref (am 3), .int st, .ref (am 4), .ref (am 5), .ref (am 6), .ref (am 7), .ref (am 8), .ref (am 9), .ref (am 10), .int en, .int cf, .ref (am 11), .ref (am 12), .ref (am 13), .ref (am 14), .ref (am 15)])), (am 1, .inl (cI, 8, .inl sz)), (am 2, .inl (cI, 960, .inl rr)), (am 3, .inl (cS, 14641, .inl co1))] : va_W) _ ls hP hD hS dX5_measure_195 ⟨rfl, co1, fun i j h1 h2 => hv i j (by omega) h1 h2, rfl⟩
      · exact absurd (show nI 0 - nI 1 < 0 by decide) c1
    | succ d ih =>
      intro co1 H locs ls hd hv hP hD hS hl
      rw [show nI (d + 1) - nI 1 = nI d from nI_pred d] at hl
      refine lv_iload_n hx hb dX5_measure_7 rfl (lv_at hl 0 rfl) ?_
      refine lv_if_lt (tgt := 189) hx hb dX5_measure_8 (by decide) (fun c1 => ?_) (fun c1 => ?_)
      · exact absurd c1 (nI_pos (by omega))
      · refine lv_aload_n hx hb dX5_measure_11 rfl (lv_at hl 1 rfl) ?_
        refine va_get (D := (dC, dI)) (ci := 5) (v := .ref (am 1)) (C := RX5) (T := TX5) (N := 19) hx hb hz hinX5 hown hK hP 0 rfl rfl 1 (by decide) (hz _ zw_479) (fun _ h9 => h9) rfl dX5_measure_12 ?_
        refine lv_iload_n hx hb dX5_measure_15 rfl (lv_at hl 3 rfl) ?_
        refine z_iald (v := nI (ns b)) hx hb hK hP 1 0 rfl rfl (k := b) hb9 (by omega) (hsz b hb9) dX5_measure_16 ?_
        refine lv_istore (lv' := [(4, .int (nI (ns b))), (3, .int (nI d)), (0, .ref (am 0)), (1, .int (nI a)), (2, .int (nI b))]) hx hb dX5_measure_17 hl (by decide) rfl (fun ls hl => ?_)
        have LB : ∀ (e9 : Nat) (co2 : Nat → Int32) (H : Heap) (locs : List Loc) (ls : Array Slot), e9 ≤ ns b + 1 → (∀ i j, (d < i ∨ (i = d ∧ e9 ≤ j)) → i ≤ ns a → j ≤ ns b → co2 (121 * i + j) = nI (dc (fs a) (fs b) (ns a) (ns b) i j)) → va_P (dC, dI) vwCl (([(am 0, .inr (5, [.int cd, .ref (am 1), .ref (am 2), .ref (am 3), .int st, .ref (am 4), .ref (am 5), .ref (am 6), .ref (am 7), .ref (am 8), .ref (am 9), .ref (am 10), .int en, .int cf, .ref (am 11), .ref (am 12), .ref (am 13), .ref (am 14), .ref (am 15)])), (am 1, .inl (cI, 8, .inl sz)), (am 2, .inl (cI, 960, .inl rr)), (am 3, .inl (cS, 14641, .inl co2))] : va_W) ++ ([] : va_W)) H → va_D A (([(am 0, .inr (5, [.int cd, .ref (am 1), .ref (am 2), .ref (am 3), .int st, .ref (am 4), .ref (am 5), .ref (am 6), .ref (am 7), .ref (am 8), .ref (am 9), .ref (am 10), .int en, .int cf, .ref (am 11), .ref (am 12), .ref (am 13), .ref (am 14), .ref (am 15)])), (am 1, .inl (cI, 8, .inl sz)), (am 2, .inl (cI, 960, .inl rr)), (am 3, .inl (cS, 14641, .inl co2))] : va_W) ++ ([] : va_W)) → va_S A s.heap H locs → lv_has ls 8 [(4, .int (nI e9 - nI 1)), (3, .int (nI d)), (0, .ref (am 0)), (1, .int (nI a)), (2, .int (nI b))] → W p l e rm_X5_measure s m args below meth c H locs 0 0 Q (F0 m 19 ls []) := by
          intro e9
          induction e9 with
          | zero =>
            intro co2 H locs ls he hw2 hP hD hS hl
            refine lv_iload hx hb dX5_measure_19 (lv_at hl 0 rfl) ?_
            refine lv_if_lt (tgt := 183) hx hb dX5_measure_21 (by decide) (fun c2 => ?_) (fun c2 => ?_)
            · refine lv_iinc (v := nI d - nI 1) (lv' := [(3, .int (nI d - nI 1)), (4, .int (nI 0 - nI 1)), (0, .ref (am 0)), (1, .int (nI a)), (2, .int (nI b))]) hx hb dX5_measure_183 hl (k := 1) rfl (z_dec _) (by decide) rfl (fun ls hl => ?_)
              refine lv_goto (tgt := 7) hx hb dX5_measure_186 (by decide) ?_
              exact ih co2 _ _ ls (by omega) (fun i j h1 h2 h3 => hw2 i j (by omega) h2 h3) hP hD hS (lv_sub hl [0, 2, 3, 4] rfl)
            · exact absurd (show nI 0 - nI 1 < 0 by decide) c2
          | succ e9 ih2 =>
            intro co2 H locs ls he hw2 hP hD hS hl
            rw [show nI (e9 + 1) - nI 1 = nI e9 from nI_pred e9] at hl
            have hl1 := hdl (d + 1) e9
            have hl2 := hdl d (e9 + 1)
            have hl3 := hdl (d + 1) (e9 + 1)
            refine lv_iload hx hb dX5_measure_19 (lv_at hl 0 rfl) ?_
            refine lv_if_lt (tgt := 183) hx hb dX5_measure_21 (by decide) (fun c4 => ?_) (fun c4 => ?_)
            · exact absurd c4 (nI_pos (by omega))
            · refine lv_aload_n hx hb dX5_measure_24 rfl (lv_at hl 2 rfl) ?_
              refine va_get (D := (dC, dI)) (ci := 5) (v := .ref (am 1)) (C := RX5) (T := TX5) (N := 19) hx hb hz hinX5 hown hK hP 0 rfl rfl 1 (by decide) (hz _ zw_479) (fun _ h9 => h9) rfl dX5_measure_25 ?_
              refine lv_iload_n hx hb dX5_measure_28 rfl (lv_at hl 4 rfl) ?_
              refine z_iald (v := nI (ns b)) hx hb hK hP 1 0 rfl rfl (k := b) hb9 (by omega) (hsz b hb9) dX5_measure_29 ?_
              refine lv_iload hx hb dX5_measure_30 (lv_at hl 0 rfl) ?_
              refine t_isub hx hb dX5_measure_32 (show nI (ns b) - nI e9 = nI ((ns b) - e9) from (pk_sub (by omega))) ?_
              refine lv_istore (lv' := [(5, .int (nI ((ns b) - e9))), (4, .int (nI e9)), (3, .int (nI d)), (0, .ref (am 0)), (1, .int (nI a)), (2, .int (nI b))]) hx hb dX5_measure_33 hl (by decide) rfl (fun ls hl => ?_)
              refine lv_iload_n hx hb dX5_measure_35 rfl (lv_at hl 2 rfl) ?_
              refine lv_aload_n hx hb dX5_measure_36 rfl (lv_at hl 3 rfl) ?_
              refine va_get (D := (dC, dI)) (ci := 5) (v := .ref (am 1)) (C := RX5) (T := TX5) (N := 19) hx hb hz hinX5 hown hK hP 0 rfl rfl 1 (by decide) (hz _ zw_479) (fun _ h9 => h9) rfl dX5_measure_37 ?_
              refine lv_iload_n hx hb dX5_measure_40 rfl (lv_at hl 4 rfl) ?_
              refine z_iald (v := nI (ns a)) hx hb hK hP 1 0 rfl rfl (k := a) ha (by omega) (hsz a ha) dX5_measure_41 ?_
              refine lv_icmp_ge (tgt := 69) hx hb dX5_measure_42 (by decide) (fun c5 => ?_) (fun c5 => ?_)
              · have c5 : (ns a) ≤ d := (nI_leI (by omega) (by omega)).mp c5
                have hda : d = ns a := by omega
                refine lv_iload_n hx hb dX5_measure_69 rfl (lv_at hl 2 rfl) ?_
                refine lv_aload_n hx hb dX5_measure_70 rfl (lv_at hl 3 rfl) ?_
                refine va_get (D := (dC, dI)) (ci := 5) (v := .ref (am 1)) (C := RX5) (T := TX5) (N := 19) hx hb hz hinX5 hown hK hP 0 rfl rfl 1 (by decide) (hz _ zw_479) (fun _ h9 => h9) rfl dX5_measure_71 ?_
                refine lv_iload_n hx hb dX5_measure_74 rfl (lv_at hl 4 rfl) ?_
                refine z_iald (v := nI (ns a)) hx hb hK hP 1 0 rfl rfl (k := a) ha (by omega) (hsz a ha) dX5_measure_75 ?_
                refine lv_icmp_ge (tgt := 162) hx hb dX5_measure_76 (by decide) (fun bb1 => ?_) (fun bb1 => ?_)
                · have bb1 : (ns a) ≤ d := (nI_leI (by omega) (by omega)).mp bb1
                  refine lv_aload_n hx hb dX5_measure_162 rfl (lv_at hl 3 rfl) ?_
                  refine va_get (D := (dC, dI)) (ci := 5) (v := .ref (am 3)) (C := RX5) (T := TX5) (N := 19) hx hb hz hinX5 hown hK hP 0 rfl rfl 3 (by decide) (hz _ zw_481) (fun _ h9 => h9) rfl dX5_measure_163 ?_
                  refine lv_bipush (v := nI 121) hx hb dX5_measure_166 (by decide) ?_
                  refine lv_iload_n hx hb dX5_measure_168 rfl (lv_at hl 2 rfl) ?_
                  refine t_imul hx hb dX5_measure_169 (show nI 121 * nI d = nI (121 * d) from (pk_mul _ _)) ?_
                  refine lv_iload hx hb dX5_measure_170 (lv_at hl 1 rfl) ?_
                  refine t_iadd hx hb dX5_measure_172 (show nI (121 * d) + nI e9 = nI (121 * d + e9) from (nI_add _ _)) ?_
                  refine lv_iload hx hb dX5_measure_173 (lv_at hl 0 rfl) ?_
                  refine t_i2s hx hb dX5_measure_175 (s16 _ (by omega)) ?_
                  refine z_sast hx hb hK hP hD hS 3 1 rfl rfl (k := (121 * d + e9)) (by omega) (by omega) (n16 (by omega)) dX5_measure_176 (fun H locs hP hD hS => ?_)
                  have hP : va_P (dC, dI) vwCl (([(am 0, .inr (5, [.int cd, .ref (am 1), .ref (am 2), .ref (am 3), .int st, .ref (am 4), .ref (am 5), .ref (am 6), .ref (am 7), .ref (am 8), .ref (am 9), .ref (am 10), .int en, .int cf, .ref (am 11), .ref (am 12), .ref (am 13), .ref (am 14), .ref (am 15)])), (am 1, .inl (cI, 8, .inl sz)), (am 2, .inl (cI, 960, .inl rr)), (am 3, .inl (cS, 14641, .inl (upd co2 (121 * d + e9) (nI ((ns b) - e9)))))] : va_W) ++ ([] : va_W)) H := hP
                  have hD : va_D A (([(am 0, .inr (5, [.int cd, .ref (am 1), .ref (am 2), .ref (am 3), .int st, .ref (am 4), .ref (am 5), .ref (am 6), .ref (am 7), .ref (am 8), .ref (am 9), .ref (am 10), .int en, .int cf, .ref (am 11), .ref (am 12), .ref (am 13), .ref (am 14), .ref (am 15)])), (am 1, .inl (cI, 8, .inl sz)), (am 2, .inl (cI, 960, .inl rr)), (am 3, .inl (cS, 14641, .inl (upd co2 (121 * d + e9) (nI ((ns b) - e9)))))] : va_W) ++ ([] : va_W)) := hD
                  refine lv_iinc (v := nI e9 - nI 1) (lv' := [(4, .int (nI e9 - nI 1)), (5, .int (nI ((ns b) - e9))), (3, .int (nI d)), (0, .ref (am 0)), (1, .int (nI a)), (2, .int (nI b))]) hx hb dX5_measure_177 hl (k := 1) rfl (z_dec _) (by decide) rfl (fun ls hl => ?_)
                  refine lv_goto (tgt := 19) hx hb dX5_measure_180 (by decide) ?_
                  exact ih2 _ _ _ ls (by omega) (up_co (q := (fun i j => nI (dc (fs a) (fs b) (ns a) (ns b) i j))) hw2 q2 (by omega) (by show _ = nI (dc (fs a) (fs b) (ns a) (ns b) d e9); rw [hda, dc_na])) hP hD hS (lv_sub hl [0, 2, 3, 4, 5] rfl)
                · have bb1 : ¬ ((ns a) ≤ d) := fun h => bb1 ((nI_leI (by omega) (by omega)).mpr h)
                  omega
              · have c5 : ¬ ((ns a) ≤ d) := fun h => c5 ((nI_leI (by omega) (by omega)).mpr h)
                refine lv_iload hx hb dX5_measure_45 (lv_at hl 1 rfl) ?_
                refine lv_aload_n hx hb dX5_measure_47 rfl (lv_at hl 3 rfl) ?_
                refine va_get (D := (dC, dI)) (ci := 5) (v := .ref (am 1)) (C := RX5) (T := TX5) (N := 19) hx hb hz hinX5 hown hK hP 0 rfl rfl 1 (by decide) (hz _ zw_479) (fun _ h9 => h9) rfl dX5_measure_48 ?_
                refine lv_iload_n hx hb dX5_measure_51 rfl (lv_at hl 5 rfl) ?_
                refine z_iald (v := nI (ns b)) hx hb hK hP 1 0 rfl rfl (k := b) hb9 (by omega) (hsz b hb9) dX5_measure_52 ?_
                refine lv_icmp_ne (tgt := 69) hx hb dX5_measure_53 (by decide) (fun c6 => ?_) (fun c6 => ?_)
                · have c6 : ¬ (e9 = (ns b)) := fun h => c6 ((nI_eq (by omega) (by omega)).mpr h)
                  refine lv_iload_n hx hb dX5_measure_69 rfl (lv_at hl 2 rfl) ?_
                  refine lv_aload_n hx hb dX5_measure_70 rfl (lv_at hl 3 rfl) ?_
                  refine va_get (D := (dC, dI)) (ci := 5) (v := .ref (am 1)) (C := RX5) (T := TX5) (N := 19) hx hb hz hinX5 hown hK hP 0 rfl rfl 1 (by decide) (hz _ zw_479) (fun _ h9 => h9) rfl dX5_measure_71 ?_
                  refine lv_iload_n hx hb dX5_measure_74 rfl (lv_at hl 4 rfl) ?_
                  refine z_iald (v := nI (ns a)) hx hb hK hP 1 0 rfl rfl (k := a) ha (by omega) (hsz a ha) dX5_measure_75 ?_
                  refine lv_icmp_ge (tgt := 162) hx hb dX5_measure_76 (by decide) (fun bb2 => ?_) (fun bb2 => ?_)
                  · have bb2 : (ns a) ≤ d := (nI_leI (by omega) (by omega)).mp bb2
                    omega
                  · have bb2 : ¬ ((ns a) ≤ d) := fun h => bb2 ((nI_leI (by omega) (by omega)).mpr h)
                    refine lv_iconst (v := nI 1) hx hb dX5_measure_79 (by decide) ?_
                    refine lv_aload_n hx hb dX5_measure_80 rfl (lv_at hl 3 rfl) ?_
                    refine va_get (D := (dC, dI)) (ci := 5) (v := .ref (am 3)) (C := RX5) (T := TX5) (N := 19) hx hb hz hinX5 hown hK hP 0 rfl rfl 3 (by decide) (hz _ zw_481) (fun _ h9 => h9) rfl dX5_measure_81 ?_
                    refine lv_bipush (v := nI 121) hx hb dX5_measure_84 (by decide) ?_
                    refine lv_iload_n hx hb dX5_measure_86 rfl (lv_at hl 2 rfl) ?_
                    refine lv_iconst (v := nI 1) hx hb dX5_measure_87 (by decide) ?_
                    refine t_iadd hx hb dX5_measure_88 (show nI d + nI 1 = nI (d + 1) from (nI_add _ _)) ?_
                    refine t_imul hx hb dX5_measure_89 (show nI 121 * nI (d + 1) = nI (121 * (d + 1)) from (pk_mul _ _)) ?_
                    refine lv_iload hx hb dX5_measure_90 (lv_at hl 1 rfl) ?_
                    refine t_iadd hx hb dX5_measure_92 (show nI (121 * (d + 1)) + nI e9 = nI (121 * (d + 1) + e9) from (nI_add _ _)) ?_
                    refine z_sald (v := nI (dc (fs a) (fs b) (ns a) (ns b) (d + 1) e9)) hx hb hK hP 3 1 rfl rfl (k := (121 * (d + 1) + e9)) (by omega) (by omega) (hw2 (d + 1) e9 (by omega) (by omega) (by omega)) dX5_measure_93 ?_
                    refine t_iadd hx hb dX5_measure_94 (show nI 1 + nI (dc (fs a) (fs b) (ns a) (ns b) (d + 1) e9) = nI (1 + (dc (fs a) (fs b) (ns a) (ns b) (d + 1) e9)) from (nI_add _ _)) ?_
                    refine lv_istore (lv' := [(6, .int (nI (1 + (dc (fs a) (fs b) (ns a) (ns b) (d + 1) e9)))), (5, .int (nI ((ns b) - e9))), (4, .int (nI e9)), (3, .int (nI d)), (0, .ref (am 0)), (1, .int (nI a)), (2, .int (nI b))]) hx hb dX5_measure_95 hl (by decide) rfl (fun ls hl => ?_)
                    refine lv_iconst (v := nI 1) hx hb dX5_measure_97 (by decide) ?_
                    refine lv_aload_n hx hb dX5_measure_98 rfl (lv_at hl 4 rfl) ?_
                    refine va_get (D := (dC, dI)) (ci := 5) (v := .ref (am 3)) (C := RX5) (T := TX5) (N := 19) hx hb hz hinX5 hown hK hP 0 rfl rfl 3 (by decide) (hz _ zw_481) (fun _ h9 => h9) rfl dX5_measure_99 ?_
                    refine lv_bipush (v := nI 121) hx hb dX5_measure_102 (by decide) ?_
                    refine lv_iload_n hx hb dX5_measure_104 rfl (lv_at hl 3 rfl) ?_
                    refine t_imul hx hb dX5_measure_105 (show nI 121 * nI d = nI (121 * d) from (pk_mul _ _)) ?_
                    refine lv_iload hx hb dX5_measure_106 (lv_at hl 2 rfl) ?_
                    refine t_iadd hx hb dX5_measure_108 (show nI (121 * d) + nI e9 = nI (121 * d + e9) from (nI_add _ _)) ?_
                    refine lv_iconst (v := nI 1) hx hb dX5_measure_109 (by decide) ?_
                    refine t_iadd hx hb dX5_measure_110 (show nI (121 * d + e9) + nI 1 = nI (121 * d + e9 + 1) from (nI_add _ _)) ?_
                    refine z_sald (v := nI (dc (fs a) (fs b) (ns a) (ns b) d (e9 + 1))) hx hb hK hP 3 1 rfl rfl (k := (121 * d + e9 + 1)) (by omega) (by omega) (hw2 d (e9 + 1) (by omega) (by omega) (by omega)) dX5_measure_111 ?_
                    refine t_iadd hx hb dX5_measure_112 (show nI 1 + nI (dc (fs a) (fs b) (ns a) (ns b) d (e9 + 1)) = nI (1 + (dc (fs a) (fs b) (ns a) (ns b) d (e9 + 1))) from (nI_add _ _)) ?_
                    refine lv_istore (lv' := [(7, .int (nI (1 + (dc (fs a) (fs b) (ns a) (ns b) d (e9 + 1))))), (6, .int (nI (1 + (dc (fs a) (fs b) (ns a) (ns b) (d + 1) e9)))), (5, .int (nI ((ns b) - e9))), (4, .int (nI e9)), (3, .int (nI d)), (0, .ref (am 0)), (1, .int (nI a)), (2, .int (nI b))]) hx hb dX5_measure_113 hl (by decide) rfl (fun ls hl => ?_)
                    refine lv_aload_n hx hb dX5_measure_115 rfl (lv_at hl 5 rfl) ?_
                    refine lv_iload_n hx hb dX5_measure_116 rfl (lv_at hl 6 rfl) ?_
                    refine lv_iload_n hx hb dX5_measure_117 rfl (lv_at hl 4 rfl) ?_
                    refine lv_iload_n hx hb dX5_measure_118 rfl (lv_at hl 7 rfl) ?_
                    refine lv_iload hx hb dX5_measure_119 (lv_at hl 3 rfl) ?_
                    refine z_ciQ (wr := ([(am 1, .inl (cI, 8, .inl sz)), (am 3, .inl (cS, 14641, .inl co2))] : va_W)) (cx := ([(am 0, .inr (5, [.int cd, .ref (am 1), .ref (am 2), .ref (am 3), .int st, .ref (am 4), .ref (am 5), .ref (am 6), .ref (am 7), .ref (am 8), .ref (am 9), .ref (am 10), .int en, .int cf, .ref (am 11), .ref (am 12), .ref (am 13), .ref (am 14), .ref (am 15)])), (am 2, .inl (cI, 960, .inl rr))] : va_W)) hP hD hS hA [0, 2] [1, 3] rfl rfl (by decide) (by decide) (va_runV (As := [.int (nI a), .int (nI d), .int (nI b), .int (nI e9)]) (rest := []) ⟨hx, hb, hml, hown, hz⟩ (c_M_same l dC dI cI cS cB cZ am cd st en cf rr ns fs hns hrw a d b e9 ha (by omega) hb9 (by omega) H.size) (cwV 4 hz (zgV zw_569 zw_571 zw_13 zw_27 zw_572) rfl rfl rfl (by decide +kernel) ⟨Nat.le_of_ble_eq_true rfl, Nat.le_of_ble_eq_true rfl⟩) ⟨zP_blind, z_recv hK hP (ci := 5) rfl rfl (q0 := 0) rfl, z_preQ hK hN hP hD [0, 2] rfl (by decide)⟩ rfl rfl hl.1 rfl (lv_room (Nat.le_of_ble_eq_true rfl)) dX5_measure_121 ⟨Nat.le_of_ble_eq_true rfl, Nat.le_of_ble_eq_true rfl⟩) (fun v3 w1 H locs hw hP hD hS => ?_)
                    obtain ⟨h3, hw⟩ := hw
                    subst hw
                    have hP : va_P (dC, dI) vwCl (([(am 1, .inl (cI, 8, .inl sz)), (am 3, .inl (cS, 14641, .inl co2)), (am 0, .inr (5, [.int cd, .ref (am 1), .ref (am 2), .ref (am 3), .int st, .ref (am 4), .ref (am 5), .ref (am 6), .ref (am 7), .ref (am 8), .ref (am 9), .ref (am 10), .int en, .int cf, .ref (am 11), .ref (am 12), .ref (am 13), .ref (am 14), .ref (am 15)])), (am 2, .inl (cI, 960, .inl rr))] : va_W) ++ ([] : va_W)) H := hP
                    have hD : va_D A (([(am 1, .inl (cI, 8, .inl sz)), (am 3, .inl (cS, 14641, .inl co2)), (am 0, .inr (5, [.int cd, .ref (am 1), .ref (am 2), .ref (am 3), .int st, .ref (am 4), .ref (am 5), .ref (am 6), .ref (am 7), .ref (am 8), .ref (am 9), .ref (am 10), .int en, .int cf, .ref (am 11), .ref (am 12), .ref (am 13), .ref (am 14), .ref (am 15)])), (am 2, .inl (cI, 960, .inl rr))] : va_W) ++ ([] : va_W)) := hD
                    have hP := z_permP (cx := ([(am 0, .inr (5, [.int cd, .ref (am 1), .ref (am 2), .ref (am 3), .int st, .ref (am 4), .ref (am 5), .ref (am 6), .ref (am 7), .ref (am 8), .ref (am 9), .ref (am 10), .int en, .int cf, .ref (am 11), .ref (am 12), .ref (am 13), .ref (am 14), .ref (am 15)])), (am 1, .inl (cI, 8, .inl sz)), (am 2, .inl (cI, 960, .inl rr)), (am 3, .inl (cS, 14641, .inl co2))] : va_W)) hP [2, 0, 3, 1] rfl
                    have hD := z_permD (cx := ([(am 0, .inr (5, [.int cd, .ref (am 1), .ref (am 2), .ref (am 3), .int st, .ref (am 4), .ref (am 5), .ref (am 6), .ref (am 7), .ref (am 8), .ref (am 9), .ref (am 10), .int en, .int cf, .ref (am 11), .ref (am 12), .ref (am 13), .ref (am 14), .ref (am 15)])), (am 1, .inl (cI, 8, .inl sz)), (am 2, .inl (cI, 960, .inl rr)), (am 3, .inl (cS, 14641, .inl co2))] : va_W)) hD [2, 0, 3, 1] rfl (by decide)
                    refine lv_if_eq (tgt := 146) hx hb dX5_measure_124 (by decide) (fun c7 => ?_) (fun c7 => ?_)
                    · have hne : ¬ fs a d = fs b e9 := fun z => by rw [h3, if_pos z] at c7; exact absurd c7 (by decide)
                      refine lv_iload hx hb dX5_measure_146 (lv_at hl 1 rfl) ?_
                      refine lv_iload hx hb dX5_measure_148 (lv_at hl 0 rfl) ?_
                      refine lv_icmp_ge (tgt := 158) hx hb dX5_measure_150 (by decide) (fun bb3 => ?_) (fun bb3 => ?_)
                      · have bb3 : (1 + (dc (fs a) (fs b) (ns a) (ns b) d (e9 + 1))) ≤ (1 + (dc (fs a) (fs b) (ns a) (ns b) (d + 1) e9)) := (nI_leI (by omega) (by omega)).mp bb3
                        refine lv_iload hx hb dX5_measure_158 (lv_at hl 0 rfl) ?_
                        refine lv_istore (lv' := [(5, .int (nI (1 + (dc (fs a) (fs b) (ns a) (ns b) d (e9 + 1))))), (7, .int (nI (1 + (dc (fs a) (fs b) (ns a) (ns b) d (e9 + 1))))), (6, .int (nI (1 + (dc (fs a) (fs b) (ns a) (ns b) (d + 1) e9)))), (4, .int (nI e9)), (3, .int (nI d)), (0, .ref (am 0)), (1, .int (nI a)), (2, .int (nI b))]) hx hb dX5_measure_160 hl (by decide) rfl (fun ls hl => ?_)
                        refine lv_aload_n hx hb dX5_measure_162 rfl (lv_at hl 5 rfl) ?_
                        refine va_get (D := (dC, dI)) (ci := 5) (v := .ref (am 3)) (C := RX5) (T := TX5) (N := 19) hx hb hz hinX5 hown hK hP 0 rfl rfl 3 (by decide) (hz _ zw_481) (fun _ h9 => h9) rfl dX5_measure_163 ?_
                        refine lv_bipush (v := nI 121) hx hb dX5_measure_166 (by decide) ?_
                        refine lv_iload_n hx hb dX5_measure_168 rfl (lv_at hl 4 rfl) ?_
                        refine t_imul hx hb dX5_measure_169 (show nI 121 * nI d = nI (121 * d) from (pk_mul _ _)) ?_
                        refine lv_iload hx hb dX5_measure_170 (lv_at hl 3 rfl) ?_
                        refine t_iadd hx hb dX5_measure_172 (show nI (121 * d) + nI e9 = nI (121 * d + e9) from (nI_add _ _)) ?_
                        refine lv_iload hx hb dX5_measure_173 (lv_at hl 0 rfl) ?_
                        refine t_i2s hx hb dX5_measure_175 (s16 _ (by omega)) ?_
                        refine z_sast hx hb hK hP hD hS 3 1 rfl rfl (k := (121 * d + e9)) (by omega) (by omega) (n16 (by omega)) dX5_measure_176 (fun H locs hP hD hS => ?_)
                        have hP : va_P (dC, dI) vwCl (([(am 0, .inr (5, [.int cd, .ref (am 1), .ref (am 2), .ref (am 3), .int st, .ref (am 4), .ref (am 5), .ref (am 6), .ref (am 7), .ref (am 8), .ref (am 9), .ref (am 10), .int en, .int cf, .ref (am 11), .ref (am 12), .ref (am 13), .ref (am 14), .ref (am 15)])), (am 1, .inl (cI, 8, .inl sz)), (am 2, .inl (cI, 960, .inl rr)), (am 3, .inl (cS, 14641, .inl (upd co2 (121 * d + e9) (nI (1 + (dc (fs a) (fs b) (ns a) (ns b) d (e9 + 1)))))))] : va_W) ++ ([] : va_W)) H := hP
                        have hD : va_D A (([(am 0, .inr (5, [.int cd, .ref (am 1), .ref (am 2), .ref (am 3), .int st, .ref (am 4), .ref (am 5), .ref (am 6), .ref (am 7), .ref (am 8), .ref (am 9), .ref (am 10), .int en, .int cf, .ref (am 11), .ref (am 12), .ref (am 13), .ref (am 14), .ref (am 15)])), (am 1, .inl (cI, 8, .inl sz)), (am 2, .inl (cI, 960, .inl rr)), (am 3, .inl (cS, 14641, .inl (upd co2 (121 * d + e9) (nI (1 + (dc (fs a) (fs b) (ns a) (ns b) d (e9 + 1)))))))] : va_W) ++ ([] : va_W)) := hD
                        refine lv_iinc (v := nI e9 - nI 1) (lv' := [(4, .int (nI e9 - nI 1)), (5, .int (nI (1 + (dc (fs a) (fs b) (ns a) (ns b) d (e9 + 1))))), (7, .int (nI (1 + (dc (fs a) (fs b) (ns a) (ns b) d (e9 + 1))))), (6, .int (nI (1 + (dc (fs a) (fs b) (ns a) (ns b) (d + 1) e9)))), (3, .int (nI d)), (0, .ref (am 0)), (1, .int (nI a)), (2, .int (nI b))]) hx hb dX5_measure_177 hl (k := 3) rfl (z_dec _) (by decide) rfl (fun ls hl => ?_)
                        refine lv_goto (tgt := 19) hx hb dX5_measure_180 (by decide) ?_
                        exact ih2 _ _ _ ls (by omega) (up_co (q := (fun i j => nI (dc (fs a) (fs b) (ns a) (ns b) i j))) hw2 q2 (by omega) (by show _ = nI (dc (fs a) (fs b) (ns a) (ns b) d e9); rw [dc_s (F := fs a) (G := fs b) (na := ns a) (nb := ns b) (i := d) (j := e9) (by omega) (by omega), if_neg hne, Nat.min_eq_right (by omega)])) hP hD hS (lv_sub hl [0, 4, 5, 6, 7] rfl)
                      · have bb3 : ¬ ((1 + (dc (fs a) (fs b) (ns a) (ns b) d (e9 + 1))) ≤ (1 + (dc (fs a) (fs b) (ns a) (ns b) (d + 1) e9))) := fun h => bb3 ((nI_leI (by omega) (by omega)).mpr h)
                        refine lv_iload hx hb dX5_measure_153 (lv_at hl 1 rfl) ?_
                        refine lv_goto (tgt := 160) hx hb dX5_measure_155 (by decide) ?_
                        refine lv_istore (lv' := [(5, .int (nI (1 + (dc (fs a) (fs b) (ns a) (ns b) (d + 1) e9)))), (7, .int (nI (1 + (dc (fs a) (fs b) (ns a) (ns b) d (e9 + 1))))), (6, .int (nI (1 + (dc (fs a) (fs b) (ns a) (ns b) (d + 1) e9)))), (4, .int (nI e9)), (3, .int (nI d)), (0, .ref (am 0)), (1, .int (nI a)), (2, .int (nI b))]) hx hb dX5_measure_160 hl (by decide) rfl (fun ls hl => ?_)
                        refine lv_aload_n hx hb dX5_measure_162 rfl (lv_at hl 5 rfl) ?_
                        refine va_get (D := (dC, dI)) (ci := 5) (v := .ref (am 3)) (C := RX5) (T := TX5) (N := 19) hx hb hz hinX5 hown hK hP 0 rfl rfl 3 (by decide) (hz _ zw_481) (fun _ h9 => h9) rfl dX5_measure_163 ?_
                        refine lv_bipush (v := nI 121) hx hb dX5_measure_166 (by decide) ?_
                        refine lv_iload_n hx hb dX5_measure_168 rfl (lv_at hl 4 rfl) ?_
                        refine t_imul hx hb dX5_measure_169 (show nI 121 * nI d = nI (121 * d) from (pk_mul _ _)) ?_
                        refine lv_iload hx hb dX5_measure_170 (lv_at hl 3 rfl) ?_
                        refine t_iadd hx hb dX5_measure_172 (show nI (121 * d) + nI e9 = nI (121 * d + e9) from (nI_add _ _)) ?_
                        refine lv_iload hx hb dX5_measure_173 (lv_at hl 0 rfl) ?_
                        refine t_i2s hx hb dX5_measure_175 (s16 _ (by omega)) ?_
                        refine z_sast hx hb hK hP hD hS 3 1 rfl rfl (k := (121 * d + e9)) (by omega) (by omega) (n16 (by omega)) dX5_measure_176 (fun H locs hP hD hS => ?_)
                        have hP : va_P (dC, dI) vwCl (([(am 0, .inr (5, [.int cd, .ref (am 1), .ref (am 2), .ref (am 3), .int st, .ref (am 4), .ref (am 5), .ref (am 6), .ref (am 7), .ref (am 8), .ref (am 9), .ref (am 10), .int en, .int cf, .ref (am 11), .ref (am 12), .ref (am 13), .ref (am 14), .ref (am 15)])), (am 1, .inl (cI, 8, .inl sz)), (am 2, .inl (cI, 960, .inl rr)), (am 3, .inl (cS, 14641, .inl (upd co2 (121 * d + e9) (nI (1 + (dc (fs a) (fs b) (ns a) (ns b) (d + 1) e9))))))] : va_W) ++ ([] : va_W)) H := hP
                        have hD : va_D A (([(am 0, .inr (5, [.int cd, .ref (am 1), .ref (am 2), .ref (am 3), .int st, .ref (am 4), .ref (am 5), .ref (am 6), .ref (am 7), .ref (am 8), .ref (am 9), .ref (am 10), .int en, .int cf, .ref (am 11), .ref (am 12), .ref (am 13), .ref (am 14), .ref (am 15)])), (am 1, .inl (cI, 8, .inl sz)), (am 2, .inl (cI, 960, .inl rr)), (am 3, .inl (cS, 14641, .inl (upd co2 (121 * d + e9) (nI (1 + (dc (fs a) (fs b) (ns a) (ns b) (d + 1) e9))))))] : va_W) ++ ([] : va_W)) := hD
                        refine lv_iinc (v := nI e9 - nI 1) (lv' := [(4, .int (nI e9 - nI 1)), (5, .int (nI (1 + (dc (fs a) (fs b) (ns a) (ns b) (d + 1) e9)))), (7, .int (nI (1 + (dc (fs a) (fs b) (ns a) (ns b) d (e9 + 1))))), (6, .int (nI (1 + (dc (fs a) (fs b) (ns a) (ns b) (d + 1) e9)))), (3, .int (nI d)), (0, .ref (am 0)), (1, .int (nI a)), (2, .int (nI b))]) hx hb dX5_measure_177 hl (k := 3) rfl (z_dec _) (by decide) rfl (fun ls hl => ?_)
                        refine lv_goto (tgt := 19) hx hb dX5_measure_180 (by decide) ?_
                        exact ih2 _ _ _ ls (by omega) (up_co (q := (fun i j => nI (dc (fs a) (fs b) (ns a) (ns b) i j))) hw2 q2 (by omega) (by show _ = nI (dc (fs a) (fs b) (ns a) (ns b) d e9); rw [dc_s (F := fs a) (G := fs b) (na := ns a) (nb := ns b) (i := d) (j := e9) (by omega) (by omega), if_neg hne, Nat.min_eq_left (by omega)])) hP hD hS (lv_sub hl [0, 4, 5, 6, 7] rfl)
                    · have heq : fs a d = fs b e9 := by by_cases z : fs a d = fs b e9; exact z; exact absurd (by rw [h3, if_neg z]) c7
                      refine lv_aload_n hx hb dX5_measure_127 rfl (lv_at hl 5 rfl) ?_
                      refine va_get (D := (dC, dI)) (ci := 5) (v := .ref (am 3)) (C := RX5) (T := TX5) (N := 19) hx hb hz hinX5 hown hK hP 0 rfl rfl 3 (by decide) (hz _ zw_481) (fun _ h9 => h9) rfl dX5_measure_128 ?_
                      refine lv_bipush (v := nI 121) hx hb dX5_measure_131 (by decide) ?_
                      refine lv_iload_n hx hb dX5_measure_133 rfl (lv_at hl 4 rfl) ?_
                      refine lv_iconst (v := nI 1) hx hb dX5_measure_134 (by decide) ?_
                      refine t_iadd hx hb dX5_measure_135 (show nI d + nI 1 = nI (d + 1) from (nI_add _ _)) ?_
                      refine t_imul hx hb dX5_measure_136 (show nI 121 * nI (d + 1) = nI (121 * (d + 1)) from (pk_mul _ _)) ?_
                      refine lv_iload hx hb dX5_measure_137 (lv_at hl 3 rfl) ?_
                      refine t_iadd hx hb dX5_measure_139 (show nI (121 * (d + 1)) + nI e9 = nI (121 * (d + 1) + e9) from (nI_add _ _)) ?_
                      refine lv_iconst (v := nI 1) hx hb dX5_measure_140 (by decide) ?_
                      refine t_iadd hx hb dX5_measure_141 (show nI (121 * (d + 1) + e9) + nI 1 = nI (121 * (d + 1) + e9 + 1) from (nI_add _ _)) ?_
                      refine z_sald (v := nI (dc (fs a) (fs b) (ns a) (ns b) (d + 1) (e9 + 1))) hx hb hK hP 3 1 rfl rfl (k := (121 * (d + 1) + e9 + 1)) (by omega) (by omega) (hw2 (d + 1) (e9 + 1) (by omega) (by omega) (by omega)) dX5_measure_142 ?_
                      refine lv_goto (tgt := 160) hx hb dX5_measure_143 (by decide) ?_
                      refine lv_istore (lv' := [(5, .int (nI (dc (fs a) (fs b) (ns a) (ns b) (d + 1) (e9 + 1)))), (7, .int (nI (1 + (dc (fs a) (fs b) (ns a) (ns b) d (e9 + 1))))), (6, .int (nI (1 + (dc (fs a) (fs b) (ns a) (ns b) (d + 1) e9)))), (4, .int (nI e9)), (3, .int (nI d)), (0, .ref (am 0)), (1, .int (nI a)), (2, .int (nI b))]) hx hb dX5_measure_160 hl (by decide) rfl (fun ls hl => ?_)
                      refine lv_aload_n hx hb dX5_measure_162 rfl (lv_at hl 5 rfl) ?_
                      refine va_get (D := (dC, dI)) (ci := 5) (v := .ref (am 3)) (C := RX5) (T := TX5) (N := 19) hx hb hz hinX5 hown hK hP 0 rfl rfl 3 (by decide) (hz _ zw_481) (fun _ h9 => h9) rfl dX5_measure_163 ?_
                      refine lv_bipush (v := nI 121) hx hb dX5_measure_166 (by decide) ?_
                      refine lv_iload_n hx hb dX5_measure_168 rfl (lv_at hl 4 rfl) ?_
                      refine t_imul hx hb dX5_measure_169 (show nI 121 * nI d = nI (121 * d) from (pk_mul _ _)) ?_
                      refine lv_iload hx hb dX5_measure_170 (lv_at hl 3 rfl) ?_
                      refine t_iadd hx hb dX5_measure_172 (show nI (121 * d) + nI e9 = nI (121 * d + e9) from (nI_add _ _)) ?_
                      refine lv_iload hx hb dX5_measure_173 (lv_at hl 0 rfl) ?_
                      refine t_i2s hx hb dX5_measure_175 (s16 _ (by omega)) ?_
                      refine z_sast hx hb hK hP hD hS 3 1 rfl rfl (k := (121 * d + e9)) (by omega) (by omega) (n16 (by omega)) dX5_measure_176 (fun H locs hP hD hS => ?_)
                      have hP : va_P (dC, dI) vwCl (([(am 0, .inr (5, [.int cd, .ref (am 1), .ref (am 2), .ref (am 3), .int st, .ref (am 4), .ref (am 5), .ref (am 6), .ref (am 7), .ref (am 8), .ref (am 9), .ref (am 10), .int en, .int cf, .ref (am 11), .ref (am 12), .ref (am 13), .ref (am 14), .ref (am 15)])), (am 1, .inl (cI, 8, .inl sz)), (am 2, .inl (cI, 960, .inl rr)), (am 3, .inl (cS, 14641, .inl (upd co2 (121 * d + e9) (nI (dc (fs a) (fs b) (ns a) (ns b) (d + 1) (e9 + 1))))))] : va_W) ++ ([] : va_W)) H := hP
                      have hD : va_D A (([(am 0, .inr (5, [.int cd, .ref (am 1), .ref (am 2), .ref (am 3), .int st, .ref (am 4), .ref (am 5), .ref (am 6), .ref (am 7), .ref (am 8), .ref (am 9), .ref (am 10), .int en, .int cf, .ref (am 11), .ref (am 12), .ref (am 13), .ref (am 14), .ref (am 15)])), (am 1, .inl (cI, 8, .inl sz)), (am 2, .inl (cI, 960, .inl rr)), (am 3, .inl (cS, 14641, .inl (upd co2 (121 * d + e9) (nI (dc (fs a) (fs b) (ns a) (ns b) (d + 1) (e9 + 1))))))] : va_W) ++ ([] : va_W)) := hD
                      refine lv_iinc (v := nI e9 - nI 1) (lv' := [(4, .int (nI e9 - nI 1)), (5, .int (nI (dc (fs a) (fs b) (ns a) (ns b) (d + 1) (e9 + 1)))), (7, .int (nI (1 + (dc (fs a) (fs b) (ns a) (ns b) d (e9 + 1))))), (6, .int (nI (1 + (dc (fs a) (fs b) (ns a) (ns b) (d + 1) e9)))), (3, .int (nI d)), (0, .ref (am 0)), (1, .int (nI a)), (2, .int (nI b))]) hx hb dX5_measure_177 hl (k := 3) rfl (z_dec _) (by decide) rfl (fun ls hl => ?_)
                      refine lv_goto (tgt := 19) hx hb dX5_measure_180 (by decide) ?_
                      exact ih2 _ _ _ ls (by omega) (up_co (q := (fun i j => nI (dc (fs a) (fs b) (ns a) (ns b) i j))) hw2 q2 (by omega) (by show _ = nI (dc (fs a) (fs b) (ns a) (ns b) d e9); rw [dc_s (F := fs a) (G := fs b) (na := ns a) (nb := ns b) (i := d) (j := e9) (by omega) (by omega), if_pos heq])) hP hD hS (lv_sub hl [0, 4, 5, 6, 7] rfl)
                · have c6 : e9 = (ns b) := (nI_eq (by omega) (by omega)).mp c6
                  refine lv_aload_n hx hb dX5_measure_56 rfl (lv_at hl 3 rfl) ?_
                  refine va_get (D := (dC, dI)) (ci := 5) (v := .ref (am 1)) (C := RX5) (T := TX5) (N := 19) hx hb hz hinX5 hown hK hP 0 rfl rfl 1 (by decide) (hz _ zw_479) (fun _ h9 => h9) rfl dX5_measure_57 ?_
                  refine lv_iload_n hx hb dX5_measure_60 rfl (lv_at hl 4 rfl) ?_
                  refine z_iald (v := nI (ns a)) hx hb hK hP 1 0 rfl rfl (k := a) ha (by omega) (hsz a ha) dX5_measure_61 ?_
                  refine lv_iload_n hx hb dX5_measure_62 rfl (lv_at hl 2 rfl) ?_
                  refine t_isub hx hb dX5_measure_63 (show nI (ns a) - nI d = nI ((ns a) - d) from (pk_sub (by omega))) ?_
                  refine lv_istore (lv' := [(5, .int (nI ((ns a) - d))), (4, .int (nI e9)), (3, .int (nI d)), (0, .ref (am 0)), (1, .int (nI a)), (2, .int (nI b))]) hx hb dX5_measure_64 hl (by decide) rfl (fun ls hl => ?_)
                  refine lv_goto (tgt := 162) hx hb dX5_measure_66 (by decide) ?_
                  refine lv_aload_n hx hb dX5_measure_162 rfl (lv_at hl 3 rfl) ?_
                  refine va_get (D := (dC, dI)) (ci := 5) (v := .ref (am 3)) (C := RX5) (T := TX5) (N := 19) hx hb hz hinX5 hown hK hP 0 rfl rfl 3 (by decide) (hz _ zw_481) (fun _ h9 => h9) rfl dX5_measure_163 ?_
                  refine lv_bipush (v := nI 121) hx hb dX5_measure_166 (by decide) ?_
                  refine lv_iload_n hx hb dX5_measure_168 rfl (lv_at hl 2 rfl) ?_
                  refine t_imul hx hb dX5_measure_169 (show nI 121 * nI d = nI (121 * d) from (pk_mul _ _)) ?_
                  refine lv_iload hx hb dX5_measure_170 (lv_at hl 1 rfl) ?_
                  refine t_iadd hx hb dX5_measure_172 (show nI (121 * d) + nI e9 = nI (121 * d + e9) from (nI_add _ _)) ?_
                  refine lv_iload hx hb dX5_measure_173 (lv_at hl 0 rfl) ?_
                  refine t_i2s hx hb dX5_measure_175 (s16 _ (by omega)) ?_
                  refine z_sast hx hb hK hP hD hS 3 1 rfl rfl (k := (121 * d + e9)) (by omega) (by omega) (n16 (by omega)) dX5_measure_176 (fun H locs hP hD hS => ?_)
                  have hP : va_P (dC, dI) vwCl (([(am 0, .inr (5, [.int cd, .ref (am 1), .ref (am 2), .ref (am 3), .int st, .ref (am 4), .ref (am 5), .ref (am 6), .ref (am 7), .ref (am 8), .ref (am 9), .ref (am 10), .int en, .int cf, .ref (am 11), .ref (am 12), .ref (am 13), .ref (am 14), .ref (am 15)])), (am 1, .inl (cI, 8, .inl sz)), (am 2, .inl (cI, 960, .inl rr)), (am 3, .inl (cS, 14641, .inl (upd co2 (121 * d + e9) (nI ((ns a) - d)))))] : va_W) ++ ([] : va_W)) H := hP
                  have hD : va_D A (([(am 0, .inr (5, [.int cd, .ref (am 1), .ref (am 2), .ref (am 3), .int st, .ref (am 4), .ref (am 5), .ref (am 6), .ref (am 7), .ref (am 8), .ref (am 9), .ref (am 10), .int en, .int cf, .ref (am 11), .ref (am 12), .ref (am 13), .ref (am 14), .ref (am 15)])), (am 1, .inl (cI, 8, .inl sz)), (am 2, .inl (cI, 960, .inl rr)), (am 3, .inl (cS, 14641, .inl (upd co2 (121 * d + e9) (nI ((ns a) - d)))))] : va_W) ++ ([] : va_W)) := hD
                  refine lv_iinc (v := nI e9 - nI 1) (lv' := [(4, .int (nI e9 - nI 1)), (5, .int (nI ((ns a) - d))), (3, .int (nI d)), (0, .ref (am 0)), (1, .int (nI a)), (2, .int (nI b))]) hx hb dX5_measure_177 hl (k := 1) rfl (z_dec _) (by decide) rfl (fun ls hl => ?_)
                  refine lv_goto (tgt := 19) hx hb dX5_measure_180 (by decide) ?_
                  exact ih2 _ _ _ ls (by omega) (up_co (q := (fun i j => nI (dc (fs a) (fs b) (ns a) (ns b) i j))) hw2 q2 (by omega) (by show _ = nI (dc (fs a) (fs b) (ns a) (ns b) d e9); rw [show e9 = ns b by omega, dc_nb])) hP hD hS (lv_sub hl [0, 2, 3, 4, 5] rfl)
        rw [show nI (ns b) = nI (ns b + 1) - nI 1 from (nI_pred (ns b)).symm] at hl
        exact LB (ns b + 1) co1 _ _ ls (by omega) (fun i j h1 h2 h3 => hv i j (by omega) h2 h3) hP hD hS (lv_sub hl [0, 1, 2, 3, 4] rfl)
  rw [show nI (ns a) = nI (ns a + 1) - nI 1 from (nI_pred (ns a)).symm] at hl
  exact LA (ns a + 1) co _ _ ls (by omega) (fun i j h1 h2 h3 => absurd h2 (by omega)) hP hD hS (lv_sub hl [0, 1, 2, 3] rfl)

abbrev rm_X5_due : Room := { frames := 1, cells := 0, slots := 0, locals := 24 }
set_option maxHeartbeats 4000000 in
set_option maxRecDepth 100000 in
theorem c_M_due (l : Launch) (dC : Nat → ClassId) (dI : Nat → Nat → Nat) (cI cS cB cZ : ClassId) (am : Nat → Nat) (cd st en cf : Int32) (sz rr co : Nat → Int32) (ns : Nat → Nat) (fs : Nat → Nat → Int32) (hns : ∀ r, r < 8 → ns r ≤ 120) (hsz : mSz ns sz) (hrw : mRw ns fs rr) (a i b j : Nat) (ha : a < 8) (hb9 : b < 8) (hi : i ≤ ns a) (hj : j ≤ ns b) (hco : mCo (fs a) (fs b) (ns a) (ns b) co) : zI l (dC, dI) vwCl (zTm cI cS cB cZ) zNW yX5_due wsX5_due rm_X5_due [.ref (am 0), .int (nI a), .int (nI i), .int (nI b), .int (nI j)] ([(am 0, .inr (5, [.int cd, .ref (am 1), .ref (am 2), .ref (am 3), .int st, .ref (am 4), .ref (am 5), .ref (am 6), .ref (am 7), .ref (am 8), .ref (am 9), .ref (am 10), .int en, .int cf, .ref (am 11), .ref (am 12), .ref (am 13), .ref (am 14), .ref (am 15)])), (am 1, .inl (cI, 8, .inl sz)), (am 2, .inl (cI, 960, .inl rr)), (am 3, .inl (cS, 14641, .inl co))] : va_W) (fun z w => (z = if i = ns a ∧ j = ns b then -1 else nI (kd (fs a) (fs b) (ns a) (ns b) i j)) ∧ w = ([(am 0, .inr (5, [.int cd, .ref (am 1), .ref (am 2), .ref (am 3), .int st, .ref (am 4), .ref (am 5), .ref (am 6), .ref (am 7), .ref (am 8), .ref (am 9), .ref (am 10), .int en, .int cf, .ref (am 11), .ref (am 12), .ref (am 13), .ref (am 14), .ref (am 15)])), (am 1, .inl (cI, 8, .inl sz)), (am 2, .inl (cI, 960, .inl rr)), (am 3, .inl (cS, 14641, .inl co))] : va_W)) := by
  refine z_ofI (cc := cX5_due) (maxL := 5) (Or.inl rfl) (by decide) rfl (Nat.le_of_ble_eq_true rfl) ?_
  intro p e s m args below meth c A Q ls hI hret
  obtain ⟨hx, hb, hml, hown, hts, hnm, hA, hK, hN, hP, hD, hS, hl⟩ := hI
  have hown : s.vm.findClass RX5 = some m.cls := hown
  have hl : lv_has ls 5 [(0, .ref (am 0)), (1, .int (nI a)), (2, .int (nI i)), (3, .int (nI b)), (4, .int (nI j))] := hl
  have hP : va_P (dC, dI) vwCl (([(am 0, .inr (5, [.int cd, .ref (am 1), .ref (am 2), .ref (am 3), .int st, .ref (am 4), .ref (am 5), .ref (am 6), .ref (am 7), .ref (am 8), .ref (am 9), .ref (am 10), .int en, .int cf, .ref (am 11), .ref (am 12), .ref (am 13), .ref (am 14), .ref (am 15)])), (am 1, .inl (cI, 8, .inl sz)), (am 2, .inl (cI, 960, .inl rr)), (am 3, .inl (cS, 14641, .inl co))] : va_W) ++ ([] : va_W)) s.heap := hP
  have hD : va_D A (([(am 0, .inr (5, [.int cd, .ref (am 1), .ref (am 2), .ref (am 3), .int st, .ref (am 4), .ref (am 5), .ref (am 6), .ref (am 7), .ref (am 8), .ref (am 9), .ref (am 10), .int en, .int cf, .ref (am 11), .ref (am 12), .ref (am 13), .ref (am 14), .ref (am 15)])), (am 1, .inl (cI, 8, .inl sz)), (am 2, .inl (cI, 960, .inl rr)), (am 3, .inl (cS, 14641, .inl co))] : va_W) ++ ([] : va_W)) := hD
  have hz : ∀ w ∈ zW, w.before args s = true := fun w h => hts w (List.mem_cons_of_mem _ h)
  have q1 := hns a ha
  have q2 := hns b hb9
  have hdl := fun (p q : Nat) => dc_le (F := fs a) (G := fs b) (na := ns a) (nb := ns b) (i := p) (j := q)
  have hl0 := hdl i j
  have hl1 := hdl (i + 1) j
  have hl2 := hdl i (j + 1)
  refine lv_iload_n hx hb dX5_due_0 rfl (lv_at hl 2 rfl) ?_
  refine lv_aload_n hx hb dX5_due_1 rfl (lv_at hl 0 rfl) ?_
  refine va_get (D := (dC, dI)) (ci := 5) (v := .ref (am 1)) (C := RX5) (T := TX5) (N := 19) hx hb hz hinX5 hown hK hP 0 rfl rfl 1 (by decide) (hz _ zw_479) (fun _ h9 => h9) rfl dX5_due_2 ?_
  refine lv_iload_n hx hb dX5_due_5 rfl (lv_at hl 1 rfl) ?_
  refine z_iald (v := nI (ns a)) hx hb hK hP 1 0 rfl rfl (k := a) ha (by omega) (hsz a ha) dX5_due_6 ?_
  refine lv_icmp_ge (tgt := 35) hx hb dX5_due_7 (by decide) (fun c5 => ?_) (fun c5 => ?_)
  · have c5 : (ns a) ≤ i := (nI_leI (by omega) (by omega)).mp c5
    refine lv_iload_n hx hb dX5_due_35 rfl (lv_at hl 2 rfl) ?_
    refine lv_aload_n hx hb dX5_due_36 rfl (lv_at hl 0 rfl) ?_
    refine va_get (D := (dC, dI)) (ci := 5) (v := .ref (am 1)) (C := RX5) (T := TX5) (N := 19) hx hb hz hinX5 hown hK hP 0 rfl rfl 1 (by decide) (hz _ zw_479) (fun _ h9 => h9) rfl dX5_due_37 ?_
    refine lv_iload_n hx hb dX5_due_40 rfl (lv_at hl 1 rfl) ?_
    refine z_iald (v := nI (ns a)) hx hb hK hP 1 0 rfl rfl (k := a) ha (by omega) (hsz a ha) dX5_due_41 ?_
    refine lv_icmp_ge (tgt := 78) hx hb dX5_due_42 (by decide) (fun bb1 => ?_) (fun bb1 => ?_)
    · have bb1 : (ns a) ≤ i := (nI_leI (by omega) (by omega)).mp bb1
      refine lv_iload hx hb dX5_due_78 (lv_at hl 4 rfl) ?_
      refine lv_aload_n hx hb dX5_due_80 rfl (lv_at hl 0 rfl) ?_
      refine va_get (D := (dC, dI)) (ci := 5) (v := .ref (am 1)) (C := RX5) (T := TX5) (N := 19) hx hb hz hinX5 hown hK hP 0 rfl rfl 1 (by decide) (hz _ zw_479) (fun _ h9 => h9) rfl dX5_due_81 ?_
      refine lv_iload_n hx hb dX5_due_84 rfl (lv_at hl 3 rfl) ?_
      refine z_iald (v := nI (ns b)) hx hb hK hP 1 0 rfl rfl (k := b) hb9 (by omega) (hsz b hb9) dX5_due_85 ?_
      refine lv_icmp_ge (tgt := 93) hx hb dX5_due_86 (by decide) (fun bb2 => ?_) (fun bb2 => ?_)
      · have bb2 : (ns b) ≤ j := (nI_leI (by omega) (by omega)).mp bb2
        refine lv_iconst (v := (-1)) hx hb dX5_due_93 (by decide) ?_
        exact hret s.heap [] _ ([(am 0, .inr (5, [.int cd, .ref (am 1), .ref (am 2), .ref (am 3), .int st, .ref (am 4), .ref (am 5), .ref (am 6), .ref (am 7), .ref (am 8), .ref (am 9), .ref (am 10), .int en, .int cf, .ref (am 11), .ref (am 12), .ref (am 13), .ref (am 14), .ref (am 15)])), (am 1, .inl (cI, 8, .inl sz)), (am 2, .inl (cI, 960, .inl rr)), (am 3, .inl (cS, 14641, .inl co))] : va_W) _ ls hP hD hS dX5_due_94 ⟨by rw [if_pos (by omega)], rfl⟩
      · have bb2 : ¬ ((ns b) ≤ j) := fun h => bb2 ((nI_leI (by omega) (by omega)).mpr h)
        refine lv_iconst (v := nI 2) hx hb dX5_due_89 (by decide) ?_
        refine lv_goto (tgt := 94) hx hb dX5_due_90 (by decide) ?_
        exact hret s.heap [] _ ([(am 0, .inr (5, [.int cd, .ref (am 1), .ref (am 2), .ref (am 3), .int st, .ref (am 4), .ref (am 5), .ref (am 6), .ref (am 7), .ref (am 8), .ref (am 9), .ref (am 10), .int en, .int cf, .ref (am 11), .ref (am 12), .ref (am 13), .ref (am 14), .ref (am 15)])), (am 1, .inl (cI, 8, .inl sz)), (am 2, .inl (cI, 960, .inl rr)), (am 3, .inl (cS, 14641, .inl co))] : va_W) _ ls hP hD hS dX5_due_94 ⟨by rw [if_neg (by omega), kd_2a (by omega)], rfl⟩
    · have bb1 : ¬ ((ns a) ≤ i) := fun h => bb1 ((nI_leI (by omega) (by omega)).mpr h)
      omega
  · have c5 : ¬ ((ns a) ≤ i) := fun h => c5 ((nI_leI (by omega) (by omega)).mpr h)
    refine lv_iload hx hb dX5_due_10 (lv_at hl 4 rfl) ?_
    refine lv_aload_n hx hb dX5_due_12 rfl (lv_at hl 0 rfl) ?_
    refine va_get (D := (dC, dI)) (ci := 5) (v := .ref (am 1)) (C := RX5) (T := TX5) (N := 19) hx hb hz hinX5 hown hK hP 0 rfl rfl 1 (by decide) (hz _ zw_479) (fun _ h9 => h9) rfl dX5_due_13 ?_
    refine lv_iload_n hx hb dX5_due_16 rfl (lv_at hl 3 rfl) ?_
    refine z_iald (v := nI (ns b)) hx hb hK hP 1 0 rfl rfl (k := b) hb9 (by omega) (hsz b hb9) dX5_due_17 ?_
    refine lv_icmp_ge (tgt := 35) hx hb dX5_due_18 (by decide) (fun c6 => ?_) (fun c6 => ?_)
    · have c6 : (ns b) ≤ j := (nI_leI (by omega) (by omega)).mp c6
      have e1 : dc (fs a) (fs b) (ns a) (ns b) i j = ns a - i := by rw [show j = ns b by omega]; exact dc_nb
      have e2 : dc (fs a) (fs b) (ns a) (ns b) (i + 1) j = ns a - (i + 1) := by rw [show j = ns b by omega]; exact dc_nb
      refine lv_iload_n hx hb dX5_due_35 rfl (lv_at hl 2 rfl) ?_
      refine lv_aload_n hx hb dX5_due_36 rfl (lv_at hl 0 rfl) ?_
      refine va_get (D := (dC, dI)) (ci := 5) (v := .ref (am 1)) (C := RX5) (T := TX5) (N := 19) hx hb hz hinX5 hown hK hP 0 rfl rfl 1 (by decide) (hz _ zw_479) (fun _ h9 => h9) rfl dX5_due_37 ?_
      refine lv_iload_n hx hb dX5_due_40 rfl (lv_at hl 1 rfl) ?_
      refine z_iald (v := nI (ns a)) hx hb hK hP 1 0 rfl rfl (k := a) ha (by omega) (hsz a ha) dX5_due_41 ?_
      refine lv_icmp_ge (tgt := 78) hx hb dX5_due_42 (by decide) (fun bb3 => ?_) (fun bb3 => ?_)
      · have bb3 : (ns a) ≤ i := (nI_leI (by omega) (by omega)).mp bb3
        omega
      · have bb3 : ¬ ((ns a) ≤ i) := fun h => bb3 ((nI_leI (by omega) (by omega)).mpr h)
        refine lv_aload_n hx hb dX5_due_45 rfl (lv_at hl 0 rfl) ?_
        refine va_get (D := (dC, dI)) (ci := 5) (v := .ref (am 3)) (C := RX5) (T := TX5) (N := 19) hx hb hz hinX5 hown hK hP 0 rfl rfl 3 (by decide) (hz _ zw_481) (fun _ h9 => h9) rfl dX5_due_46 ?_
        refine lv_bipush (v := nI 121) hx hb dX5_due_49 (by decide) ?_
        refine lv_iload_n hx hb dX5_due_51 rfl (lv_at hl 2 rfl) ?_
        refine t_imul hx hb dX5_due_52 (show nI 121 * nI i = nI (121 * i) from (pk_mul _ _)) ?_
        refine lv_iload hx hb dX5_due_53 (lv_at hl 4 rfl) ?_
        refine t_iadd hx hb dX5_due_55 (show nI (121 * i) + nI j = nI (121 * i + j) from (nI_add _ _)) ?_
        refine z_sald (v := nI (dc (fs a) (fs b) (ns a) (ns b) i j)) hx hb hK hP 3 1 rfl rfl (k := (121 * i + j)) (by omega) (by omega) (hco i j (by omega) (by omega)) dX5_due_56 ?_
        refine lv_iconst (v := nI 1) hx hb dX5_due_57 (by decide) ?_
        refine lv_aload_n hx hb dX5_due_58 rfl (lv_at hl 0 rfl) ?_
        refine va_get (D := (dC, dI)) (ci := 5) (v := .ref (am 3)) (C := RX5) (T := TX5) (N := 19) hx hb hz hinX5 hown hK hP 0 rfl rfl 3 (by decide) (hz _ zw_481) (fun _ h9 => h9) rfl dX5_due_59 ?_
        refine lv_bipush (v := nI 121) hx hb dX5_due_62 (by decide) ?_
        refine lv_iload_n hx hb dX5_due_64 rfl (lv_at hl 2 rfl) ?_
        refine lv_iconst (v := nI 1) hx hb dX5_due_65 (by decide) ?_
        refine t_iadd hx hb dX5_due_66 (show nI i + nI 1 = nI (i + 1) from (nI_add _ _)) ?_
        refine t_imul hx hb dX5_due_67 (show nI 121 * nI (i + 1) = nI (121 * (i + 1)) from (pk_mul _ _)) ?_
        refine lv_iload hx hb dX5_due_68 (lv_at hl 4 rfl) ?_
        refine t_iadd hx hb dX5_due_70 (show nI (121 * (i + 1)) + nI j = nI (121 * (i + 1) + j) from (nI_add _ _)) ?_
        refine z_sald (v := nI (dc (fs a) (fs b) (ns a) (ns b) (i + 1) j)) hx hb hK hP 3 1 rfl rfl (k := (121 * (i + 1) + j)) (by omega) (by omega) (hco (i + 1) j (by omega) (by omega)) dX5_due_71 ?_
        refine t_iadd hx hb dX5_due_72 (show nI 1 + nI (dc (fs a) (fs b) (ns a) (ns b) (i + 1) j) = nI (1 + (dc (fs a) (fs b) (ns a) (ns b) (i + 1) j)) from (nI_add _ _)) ?_
        refine lv_icmp_ne (tgt := 78) hx hb dX5_due_73 (by decide) (fun c8 => ?_) (fun c8 => ?_)
        · have c8 : ¬ ((dc (fs a) (fs b) (ns a) (ns b) i j) = (1 + (dc (fs a) (fs b) (ns a) (ns b) (i + 1) j))) := fun h => c8 ((nI_eq (by omega) (by omega)).mpr h)
          omega
        · have c8 : (dc (fs a) (fs b) (ns a) (ns b) i j) = (1 + (dc (fs a) (fs b) (ns a) (ns b) (i + 1) j)) := (nI_eq (by omega) (by omega)).mp c8
          refine lv_iconst (v := nI 1) hx hb dX5_due_76 (by decide) ?_
          exact hret s.heap [] _ ([(am 0, .inr (5, [.int cd, .ref (am 1), .ref (am 2), .ref (am 3), .int st, .ref (am 4), .ref (am 5), .ref (am 6), .ref (am 7), .ref (am 8), .ref (am 9), .ref (am 10), .int en, .int cf, .ref (am 11), .ref (am 12), .ref (am 13), .ref (am 14), .ref (am 15)])), (am 1, .inl (cI, 8, .inl sz)), (am 2, .inl (cI, 960, .inl rr)), (am 3, .inl (cS, 14641, .inl co))] : va_W) _ ls hP hD hS dX5_due_77 ⟨by rw [if_neg (by omega), kd_1 (by omega) (fun z => by omega) (Or.inl (by omega))], rfl⟩
    · have c6 : ¬ ((ns b) ≤ j) := fun h => c6 ((nI_leI (by omega) (by omega)).mpr h)
      refine lv_aload_n hx hb dX5_due_21 rfl (lv_at hl 0 rfl) ?_
      refine lv_iload_n hx hb dX5_due_22 rfl (lv_at hl 1 rfl) ?_
      refine lv_iload_n hx hb dX5_due_23 rfl (lv_at hl 2 rfl) ?_
      refine lv_iload_n hx hb dX5_due_24 rfl (lv_at hl 3 rfl) ?_
      refine lv_iload hx hb dX5_due_25 (lv_at hl 4 rfl) ?_
      refine z_ciQ (wr := ([(am 1, .inl (cI, 8, .inl sz)), (am 3, .inl (cS, 14641, .inl co))] : va_W)) (cx := ([(am 0, .inr (5, [.int cd, .ref (am 1), .ref (am 2), .ref (am 3), .int st, .ref (am 4), .ref (am 5), .ref (am 6), .ref (am 7), .ref (am 8), .ref (am 9), .ref (am 10), .int en, .int cf, .ref (am 11), .ref (am 12), .ref (am 13), .ref (am 14), .ref (am 15)])), (am 2, .inl (cI, 960, .inl rr))] : va_W)) hP hD hS hA [0, 2] [1, 3] rfl rfl (by decide) (by decide) (va_runV (As := [.int (nI a), .int (nI i), .int (nI b), .int (nI j)]) (rest := []) ⟨hx, hb, hml, hown, hz⟩ (c_M_same l dC dI cI cS cB cZ am cd st en cf rr ns fs hns hrw a i b j ha (by omega) hb9 (by omega) s.heap.size) (cwV 4 hz (zgV zw_569 zw_571 zw_13 zw_27 zw_572) rfl rfl rfl (by decide +kernel) ⟨Nat.le_of_ble_eq_true rfl, Nat.le_of_ble_eq_true rfl⟩) ⟨zP_blind, z_recv hK hP (ci := 5) rfl rfl (q0 := 0) rfl, z_preQ hK hN hP hD [0, 2] rfl (by decide)⟩ rfl rfl hl.1 rfl (lv_room (Nat.le_of_ble_eq_true rfl)) dX5_due_27 ⟨Nat.le_of_ble_eq_true rfl, Nat.le_of_ble_eq_true rfl⟩) (fun v3 w1 H locs hw hP hD hS => ?_)
      obtain ⟨h3, hw⟩ := hw
      subst hw
      have hP : va_P (dC, dI) vwCl (([(am 1, .inl (cI, 8, .inl sz)), (am 3, .inl (cS, 14641, .inl co)), (am 0, .inr (5, [.int cd, .ref (am 1), .ref (am 2), .ref (am 3), .int st, .ref (am 4), .ref (am 5), .ref (am 6), .ref (am 7), .ref (am 8), .ref (am 9), .ref (am 10), .int en, .int cf, .ref (am 11), .ref (am 12), .ref (am 13), .ref (am 14), .ref (am 15)])), (am 2, .inl (cI, 960, .inl rr))] : va_W) ++ ([] : va_W)) H := hP
      have hD : va_D A (([(am 1, .inl (cI, 8, .inl sz)), (am 3, .inl (cS, 14641, .inl co)), (am 0, .inr (5, [.int cd, .ref (am 1), .ref (am 2), .ref (am 3), .int st, .ref (am 4), .ref (am 5), .ref (am 6), .ref (am 7), .ref (am 8), .ref (am 9), .ref (am 10), .int en, .int cf, .ref (am 11), .ref (am 12), .ref (am 13), .ref (am 14), .ref (am 15)])), (am 2, .inl (cI, 960, .inl rr))] : va_W) ++ ([] : va_W)) := hD
      have hP := z_permP (cx := ([(am 0, .inr (5, [.int cd, .ref (am 1), .ref (am 2), .ref (am 3), .int st, .ref (am 4), .ref (am 5), .ref (am 6), .ref (am 7), .ref (am 8), .ref (am 9), .ref (am 10), .int en, .int cf, .ref (am 11), .ref (am 12), .ref (am 13), .ref (am 14), .ref (am 15)])), (am 1, .inl (cI, 8, .inl sz)), (am 2, .inl (cI, 960, .inl rr)), (am 3, .inl (cS, 14641, .inl co))] : va_W)) hP [2, 0, 3, 1] rfl
      have hD := z_permD (cx := ([(am 0, .inr (5, [.int cd, .ref (am 1), .ref (am 2), .ref (am 3), .int st, .ref (am 4), .ref (am 5), .ref (am 6), .ref (am 7), .ref (am 8), .ref (am 9), .ref (am 10), .int en, .int cf, .ref (am 11), .ref (am 12), .ref (am 13), .ref (am 14), .ref (am 15)])), (am 1, .inl (cI, 8, .inl sz)), (am 2, .inl (cI, 960, .inl rr)), (am 3, .inl (cS, 14641, .inl co))] : va_W)) hD [2, 0, 3, 1] rfl (by decide)
      refine lv_if_eq (tgt := 35) hx hb dX5_due_30 (by decide) (fun c7 => ?_) (fun c7 => ?_)
      · have hne : ¬ fs a i = fs b j := fun z => by rw [h3, if_pos z] at c7; exact absurd c7 (by decide)
        have e1 := dc_s (F := fs a) (G := fs b) (na := ns a) (nb := ns b) (i := i) (j := j) (by omega) (by omega)
        rw [if_neg hne] at e1
        refine lv_iload_n hx hb dX5_due_35 rfl (lv_at hl 2 rfl) ?_
        refine lv_aload_n hx hb dX5_due_36 rfl (lv_at hl 0 rfl) ?_
        refine va_get (D := (dC, dI)) (ci := 5) (v := .ref (am 1)) (C := RX5) (T := TX5) (N := 19) hx hb hz hinX5 hown hK hP 0 rfl rfl 1 (by decide) (hz _ zw_479) (fun _ h9 => h9) rfl dX5_due_37 ?_
        refine lv_iload_n hx hb dX5_due_40 rfl (lv_at hl 1 rfl) ?_
        refine z_iald (v := nI (ns a)) hx hb hK hP 1 0 rfl rfl (k := a) ha (by omega) (hsz a ha) dX5_due_41 ?_
        refine lv_icmp_ge (tgt := 78) hx hb dX5_due_42 (by decide) (fun bb4 => ?_) (fun bb4 => ?_)
        · have bb4 : (ns a) ≤ i := (nI_leI (by omega) (by omega)).mp bb4
          omega
        · have bb4 : ¬ ((ns a) ≤ i) := fun h => bb4 ((nI_leI (by omega) (by omega)).mpr h)
          refine lv_aload_n hx hb dX5_due_45 rfl (lv_at hl 0 rfl) ?_
          refine va_get (D := (dC, dI)) (ci := 5) (v := .ref (am 3)) (C := RX5) (T := TX5) (N := 19) hx hb hz hinX5 hown hK hP 0 rfl rfl 3 (by decide) (hz _ zw_481) (fun _ h9 => h9) rfl dX5_due_46 ?_
          refine lv_bipush (v := nI 121) hx hb dX5_due_49 (by decide) ?_
          refine lv_iload_n hx hb dX5_due_51 rfl (lv_at hl 2 rfl) ?_
          refine t_imul hx hb dX5_due_52 (show nI 121 * nI i = nI (121 * i) from (pk_mul _ _)) ?_
          refine lv_iload hx hb dX5_due_53 (lv_at hl 4 rfl) ?_
          refine t_iadd hx hb dX5_due_55 (show nI (121 * i) + nI j = nI (121 * i + j) from (nI_add _ _)) ?_
          refine z_sald (v := nI (dc (fs a) (fs b) (ns a) (ns b) i j)) hx hb hK hP 3 1 rfl rfl (k := (121 * i + j)) (by omega) (by omega) (hco i j (by omega) (by omega)) dX5_due_56 ?_
          refine lv_iconst (v := nI 1) hx hb dX5_due_57 (by decide) ?_
          refine lv_aload_n hx hb dX5_due_58 rfl (lv_at hl 0 rfl) ?_
          refine va_get (D := (dC, dI)) (ci := 5) (v := .ref (am 3)) (C := RX5) (T := TX5) (N := 19) hx hb hz hinX5 hown hK hP 0 rfl rfl 3 (by decide) (hz _ zw_481) (fun _ h9 => h9) rfl dX5_due_59 ?_
          refine lv_bipush (v := nI 121) hx hb dX5_due_62 (by decide) ?_
          refine lv_iload_n hx hb dX5_due_64 rfl (lv_at hl 2 rfl) ?_
          refine lv_iconst (v := nI 1) hx hb dX5_due_65 (by decide) ?_
          refine t_iadd hx hb dX5_due_66 (show nI i + nI 1 = nI (i + 1) from (nI_add _ _)) ?_
          refine t_imul hx hb dX5_due_67 (show nI 121 * nI (i + 1) = nI (121 * (i + 1)) from (pk_mul _ _)) ?_
          refine lv_iload hx hb dX5_due_68 (lv_at hl 4 rfl) ?_
          refine t_iadd hx hb dX5_due_70 (show nI (121 * (i + 1)) + nI j = nI (121 * (i + 1) + j) from (nI_add _ _)) ?_
          refine z_sald (v := nI (dc (fs a) (fs b) (ns a) (ns b) (i + 1) j)) hx hb hK hP 3 1 rfl rfl (k := (121 * (i + 1) + j)) (by omega) (by omega) (hco (i + 1) j (by omega) (by omega)) dX5_due_71 ?_
          refine t_iadd hx hb dX5_due_72 (show nI 1 + nI (dc (fs a) (fs b) (ns a) (ns b) (i + 1) j) = nI (1 + (dc (fs a) (fs b) (ns a) (ns b) (i + 1) j)) from (nI_add _ _)) ?_
          refine lv_icmp_ne (tgt := 78) hx hb dX5_due_73 (by decide) (fun c8 => ?_) (fun c8 => ?_)
          · have c8 : ¬ ((dc (fs a) (fs b) (ns a) (ns b) i j) = (1 + (dc (fs a) (fs b) (ns a) (ns b) (i + 1) j))) := fun h => c8 ((nI_eq (by omega) (by omega)).mpr h)
            refine lv_iload hx hb dX5_due_78 (lv_at hl 4 rfl) ?_
            refine lv_aload_n hx hb dX5_due_80 rfl (lv_at hl 0 rfl) ?_
            refine va_get (D := (dC, dI)) (ci := 5) (v := .ref (am 1)) (C := RX5) (T := TX5) (N := 19) hx hb hz hinX5 hown hK hP 0 rfl rfl 1 (by decide) (hz _ zw_479) (fun _ h9 => h9) rfl dX5_due_81 ?_
            refine lv_iload_n hx hb dX5_due_84 rfl (lv_at hl 3 rfl) ?_
            refine z_iald (v := nI (ns b)) hx hb hK hP 1 0 rfl rfl (k := b) hb9 (by omega) (hsz b hb9) dX5_due_85 ?_
            refine lv_icmp_ge (tgt := 93) hx hb dX5_due_86 (by decide) (fun bb5 => ?_) (fun bb5 => ?_)
            · have bb5 : (ns b) ≤ j := (nI_leI (by omega) (by omega)).mp bb5
              omega
            · have bb5 : ¬ ((ns b) ≤ j) := fun h => bb5 ((nI_leI (by omega) (by omega)).mpr h)
              refine lv_iconst (v := nI 2) hx hb dX5_due_89 (by decide) ?_
              refine lv_goto (tgt := 94) hx hb dX5_due_90 (by decide) ?_
              exact hret H locs _ ([(am 0, .inr (5, [.int cd, .ref (am 1), .ref (am 2), .ref (am 3), .int st, .ref (am 4), .ref (am 5), .ref (am 6), .ref (am 7), .ref (am 8), .ref (am 9), .ref (am 10), .int en, .int cf, .ref (am 11), .ref (am 12), .ref (am 13), .ref (am 14), .ref (am 15)])), (am 1, .inl (cI, 8, .inl sz)), (am 2, .inl (cI, 960, .inl rr)), (am 3, .inl (cS, 14641, .inl co))] : va_W) _ ls hP hD hS dX5_due_94 ⟨by rw [if_neg (by omega), kd_2b (by omega) (fun z => hne z.2) (by omega)], rfl⟩
          · have c8 : (dc (fs a) (fs b) (ns a) (ns b) i j) = (1 + (dc (fs a) (fs b) (ns a) (ns b) (i + 1) j)) := (nI_eq (by omega) (by omega)).mp c8
            refine lv_iconst (v := nI 1) hx hb dX5_due_76 (by decide) ?_
            exact hret H locs _ ([(am 0, .inr (5, [.int cd, .ref (am 1), .ref (am 2), .ref (am 3), .int st, .ref (am 4), .ref (am 5), .ref (am 6), .ref (am 7), .ref (am 8), .ref (am 9), .ref (am 10), .int en, .int cf, .ref (am 11), .ref (am 12), .ref (am 13), .ref (am 14), .ref (am 15)])), (am 1, .inl (cI, 8, .inl sz)), (am 2, .inl (cI, 960, .inl rr)), (am 3, .inl (cS, 14641, .inl co))] : va_W) _ ls hP hD hS dX5_due_77 ⟨by rw [if_neg (by omega), kd_1 (by omega) (fun z => hne z.2) (Or.inr (by omega))], rfl⟩
      · have heq : fs a i = fs b j := by by_cases z : fs a i = fs b j; exact z; exact absurd (by rw [h3, if_neg z]) c7
        refine lv_iconst (v := nI 0) hx hb dX5_due_33 (by decide) ?_
        exact hret H locs _ ([(am 0, .inr (5, [.int cd, .ref (am 1), .ref (am 2), .ref (am 3), .int st, .ref (am 4), .ref (am 5), .ref (am 6), .ref (am 7), .ref (am 8), .ref (am 9), .ref (am 10), .int en, .int cf, .ref (am 11), .ref (am 12), .ref (am 13), .ref (am 14), .ref (am 15)])), (am 1, .inl (cI, 8, .inl sz)), (am 2, .inl (cI, 960, .inl rr)), (am 3, .inl (cS, 14641, .inl co))] : va_W) _ ls hP hD hS dX5_due_34 ⟨by rw [if_neg (by omega), kd_0 (by omega) (by omega) heq], rfl⟩

abbrev rm_X5_diff : Room := { frames := 2, cells := 0, slots := 0, locals := 51 }
set_option maxHeartbeats 4000000 in
set_option maxRecDepth 100000 in
theorem c_M_diff (l : Launch) (dC : Nat → ClassId) (dI : Nat → Nat → Nat) (cI cS cB cZ : ClassId) (am : Nat → Nat) (cd st en cf : Int32) (sz rr co mk mf mg mv : Nat → Int32) (ns : Nat → Nat) (fs : Nat → Nat → Int32) (hns : ∀ r, r < 8 → ns r ≤ 120) (hsz : mSz ns sz) (hrw : mRw ns fs rr) (x y : Int32) : zI l (dC, dI) vwCl (zTm cI cS cB cZ) zNW yX5_diff wsX5_diff rm_X5_diff [.ref (am 0), .int x, .int y] ([(am 0, .inr (5, [.int cd, .ref (am 1), .ref (am 2), .ref (am 3), .int st, .ref (am 4), .ref (am 5), .ref (am 6), .ref (am 7), .ref (am 8), .ref (am 9), .ref (am 10), .int en, .int cf, .ref (am 11), .ref (am 12), .ref (am 13), .ref (am 14), .ref (am 15)])), (am 1, .inl (cI, 8, .inl sz)), (am 2, .inl (cI, 960, .inl rr)), (am 3, .inl (cS, 14641, .inl co)), (am 4, .inl (cB, 240, .inl mk)), (am 5, .inl (cB, 240, .inl mf)), (am 6, .inl (cB, 240, .inl mg)), (am 7, .inl (cI, 240, .inl mv))] : va_W) (fun z w => (((∀ r, r < 8 → x ≠ nI r) ∨ (∀ r, r < 8 → y ≠ nI r)) ∧ w = ([(am 0, .inr (5, [.int (nI 1), .ref (am 1), .ref (am 2), .ref (am 3), .int st, .ref (am 4), .ref (am 5), .ref (am 6), .ref (am 7), .ref (am 8), .ref (am 9), .ref (am 10), .int en, .int cf, .ref (am 11), .ref (am 12), .ref (am 13), .ref (am 14), .ref (am 15)])), (am 1, .inl (cI, 8, .inl sz)), (am 2, .inl (cI, 960, .inl rr)), (am 3, .inl (cS, 14641, .inl co)), (am 4, .inl (cB, 240, .inl mk)), (am 5, .inl (cB, 240, .inl mf)), (am 6, .inl (cB, 240, .inl mg)), (am 7, .inl (cI, 240, .inl mv))] : va_W)) ∨ (∃ r1 r2, r1 < 8 ∧ r2 < 8 ∧ x = nI r1 ∧ y = nI r2 ∧ ∃ co' : Nat → Int32, (100 < dc (fs r1) (fs r2) (ns r1) (ns r2) 0 0 ∧ w = ([(am 0, .inr (5, [.int (nI 2), .ref (am 1), .ref (am 2), .ref (am 3), .int st, .ref (am 4), .ref (am 5), .ref (am 6), .ref (am 7), .ref (am 8), .ref (am 9), .ref (am 10), .int en, .int cf, .ref (am 11), .ref (am 12), .ref (am 13), .ref (am 14), .ref (am 15)])), (am 1, .inl (cI, 8, .inl sz)), (am 2, .inl (cI, 960, .inl rr)), (am 3, .inl (cS, 14641, .inl co')), (am 4, .inl (cB, 240, .inl mk)), (am 5, .inl (cB, 240, .inl mf)), (am 6, .inl (cB, 240, .inl mg)), (am 7, .inl (cI, 240, .inl mv))] : va_W)) ∨ (dc (fs r1) (fs r2) (ns r1) (ns r2) 0 0 ≤ 100 ∧ z = nI (dc (fs r1) (fs r2) (ns r1) (ns r2) 0 0) ∧ ∃ (n : Nat) (mk' mf' mg' mv' : Nat → Int32), n ≤ 240 ∧ ps (fs r1) (fs r2) (ns r1) (ns r2) n = (ns r1, ns r2) ∧ (∀ k, k < n → (ps (fs r1) (fs r2) (ns r1) (ns r2) k).1 < ns r1 ∨ (ps (fs r1) (fs r2) (ns r1) (ns r2) k).2 < ns r2) ∧ agr (fs r1) (fs r2) (ns r1) (ns r2) mk' mf' mg' mv' n ∧ w = ([(am 0, .inr (5, [.int (nI 0), .ref (am 1), .ref (am 2), .ref (am 3), .int (nI n), .ref (am 4), .ref (am 5), .ref (am 6), .ref (am 7), .ref (am 8), .ref (am 9), .ref (am 10), .int en, .int cf, .ref (am 11), .ref (am 12), .ref (am 13), .ref (am 14), .ref (am 15)])), (am 1, .inl (cI, 8, .inl sz)), (am 2, .inl (cI, 960, .inl rr)), (am 3, .inl (cS, 14641, .inl co')), (am 4, .inl (cB, 240, .inl mk')), (am 5, .inl (cB, 240, .inl mf')), (am 6, .inl (cB, 240, .inl mg')), (am 7, .inl (cI, 240, .inl mv'))] : va_W)))) := by
  refine z_ofI (cc := cX5_diff) (maxL := 7) (Or.inl rfl) (by decide) rfl (Nat.le_of_ble_eq_true rfl) ?_
  intro p e s m args below meth c A Q ls hI hret
  obtain ⟨hx, hb, hml, hown, hts, hnm, hA, hK, hN, hP, hD, hS, hl⟩ := hI
  have hown : s.vm.findClass RX5 = some m.cls := hown
  have hl : lv_has ls 7 [(0, .ref (am 0)), (1, .int x), (2, .int y)] := hl
  have hP : va_P (dC, dI) vwCl (([(am 0, .inr (5, [.int cd, .ref (am 1), .ref (am 2), .ref (am 3), .int st, .ref (am 4), .ref (am 5), .ref (am 6), .ref (am 7), .ref (am 8), .ref (am 9), .ref (am 10), .int en, .int cf, .ref (am 11), .ref (am 12), .ref (am 13), .ref (am 14), .ref (am 15)])), (am 1, .inl (cI, 8, .inl sz)), (am 2, .inl (cI, 960, .inl rr)), (am 3, .inl (cS, 14641, .inl co)), (am 4, .inl (cB, 240, .inl mk)), (am 5, .inl (cB, 240, .inl mf)), (am 6, .inl (cB, 240, .inl mg)), (am 7, .inl (cI, 240, .inl mv))] : va_W) ++ ([] : va_W)) s.heap := hP
  have hD : va_D A (([(am 0, .inr (5, [.int cd, .ref (am 1), .ref (am 2), .ref (am 3), .int st, .ref (am 4), .ref (am 5), .ref (am 6), .ref (am 7), .ref (am 8), .ref (am 9), .ref (am 10), .int en, .int cf, .ref (am 11), .ref (am 12), .ref (am 13), .ref (am 14), .ref (am 15)])), (am 1, .inl (cI, 8, .inl sz)), (am 2, .inl (cI, 960, .inl rr)), (am 3, .inl (cS, 14641, .inl co)), (am 4, .inl (cB, 240, .inl mk)), (am 5, .inl (cB, 240, .inl mf)), (am 6, .inl (cB, 240, .inl mg)), (am 7, .inl (cI, 240, .inl mv))] : va_W) ++ ([] : va_W)) := hD
  have hz : ∀ w ∈ zW, w.before args s = true := fun w h => hts w (List.mem_cons_of_mem _ h)
  refine lv_aload_n hx hb dX5_diff_0 rfl (lv_at hl 0 rfl) ?_
  refine lv_iload_n hx hb dX5_diff_1 rfl (lv_at hl 1 rfl) ?_
  refine z_ciQ (wr := ([(am 0, .inr (5, [.int cd, .ref (am 1), .ref (am 2), .ref (am 3), .int st, .ref (am 4), .ref (am 5), .ref (am 6), .ref (am 7), .ref (am 8), .ref (am 9), .ref (am 10), .int en, .int cf, .ref (am 11), .ref (am 12), .ref (am 13), .ref (am 14), .ref (am 15)])), (am 1, .inl (cI, 8, .inl sz)), (am 2, .inl (cI, 960, .inl rr)), (am 3, .inl (cS, 14641, .inl co)), (am 4, .inl (cB, 240, .inl mk)), (am 5, .inl (cB, 240, .inl mf)), (am 6, .inl (cB, 240, .inl mg)), (am 7, .inl (cI, 240, .inl mv))] : va_W)) (cx := ([] : va_W)) hP hD hS hA [] [0, 1, 2, 3, 4, 5, 6, 7] rfl rfl (by decide) (by decide) (va_runS (As := [.int x]) (rest := [.ref (am 0)]) ⟨hx, hb, hml, hown, hz⟩ (c_M_isRow l dC dI cI cS cB cZ x s.heap.size) (cwS 1 hz (zgS zw_546 zw_547 zw_27 zw_548) rfl rfl rfl (by decide +kernel) ⟨Nat.le_of_ble_eq_true rfl, Nat.le_of_ble_eq_true rfl⟩) ⟨zP_blind, z_preQ hK hN hP hD [] rfl (by decide)⟩ rfl rfl hl.1 rfl (lv_room (Nat.le_of_ble_eq_true rfl)) dX5_diff_2 ⟨Nat.le_of_ble_eq_true rfl, Nat.le_of_ble_eq_true rfl⟩) (fun v1 w1 H locs hw hP hD hS => ?_)
  obtain ⟨h1, hw⟩ := hw
  subst hw
  have hP : va_P (dC, dI) vwCl (([(am 0, .inr (5, [.int cd, .ref (am 1), .ref (am 2), .ref (am 3), .int st, .ref (am 4), .ref (am 5), .ref (am 6), .ref (am 7), .ref (am 8), .ref (am 9), .ref (am 10), .int en, .int cf, .ref (am 11), .ref (am 12), .ref (am 13), .ref (am 14), .ref (am 15)])), (am 1, .inl (cI, 8, .inl sz)), (am 2, .inl (cI, 960, .inl rr)), (am 3, .inl (cS, 14641, .inl co)), (am 4, .inl (cB, 240, .inl mk)), (am 5, .inl (cB, 240, .inl mf)), (am 6, .inl (cB, 240, .inl mg)), (am 7, .inl (cI, 240, .inl mv))] : va_W) ++ ([] : va_W)) H := hP
  have hD : va_D A (([(am 0, .inr (5, [.int cd, .ref (am 1), .ref (am 2), .ref (am 3), .int st, .ref (am 4), .ref (am 5), .ref (am 6), .ref (am 7), .ref (am 8), .ref (am 9), .ref (am 10), .int en, .int cf, .ref (am 11), .ref (am 12), .ref (am 13), .ref (am 14), .ref (am 15)])), (am 1, .inl (cI, 8, .inl sz)), (am 2, .inl (cI, 960, .inl rr)), (am 3, .inl (cS, 14641, .inl co)), (am 4, .inl (cB, 240, .inl mk)), (am 5, .inl (cB, 240, .inl mf)), (am 6, .inl (cB, 240, .inl mg)), (am 7, .inl (cI, 240, .inl mv))] : va_W) ++ ([] : va_W)) := hD
  refine lv_if_eq (tgt := 19) hx hb dX5_diff_5 (by decide) (fun c1 => ?_) (fun c1 => ?_)
  · have hnoc1 : ∀ r, r < 8 → x ≠ nI r := by rcases h1 with ⟨r, g1, g2, g3⟩ | ⟨g1, g2⟩; exact absurd (by rw [g3] at c1; exact c1) (by decide); exact g1
    refine lv_iconst (v := nI 1) hx hb dX5_diff_19 (by decide) ?_
    refine va_put (D := (dC, dI)) (ci := 5) (v := .int (nI 1)) (ty := .int) (C := RX5) (T := TX5) (N := 19) hx hb hz hinX5 tyX5 tyX5_ok nmX5 hown hK hP hD hS 0 rfl rfl 0 (by decide) (hz _ zw_478) (fun _ h9 => h9) rfl (by decide +kernel) rfl rfl (Nat.le_of_ble_eq_true rfl) dX5_diff_20 (fun H locs hP hD hS => ?_)
    have hP : va_P (dC, dI) vwCl (([(am 0, .inr (5, [.int (nI 1), .ref (am 1), .ref (am 2), .ref (am 3), .int st, .ref (am 4), .ref (am 5), .ref (am 6), .ref (am 7), .ref (am 8), .ref (am 9), .ref (am 10), .int en, .int cf, .ref (am 11), .ref (am 12), .ref (am 13), .ref (am 14), .ref (am 15)])), (am 1, .inl (cI, 8, .inl sz)), (am 2, .inl (cI, 960, .inl rr)), (am 3, .inl (cS, 14641, .inl co)), (am 4, .inl (cB, 240, .inl mk)), (am 5, .inl (cB, 240, .inl mf)), (am 6, .inl (cB, 240, .inl mg)), (am 7, .inl (cI, 240, .inl mv))] : va_W) ++ ([] : va_W)) H := hP
    have hD : va_D A (([(am 0, .inr (5, [.int (nI 1), .ref (am 1), .ref (am 2), .ref (am 3), .int st, .ref (am 4), .ref (am 5), .ref (am 6), .ref (am 7), .ref (am 8), .ref (am 9), .ref (am 10), .int en, .int cf, .ref (am 11), .ref (am 12), .ref (am 13), .ref (am 14), .ref (am 15)])), (am 1, .inl (cI, 8, .inl sz)), (am 2, .inl (cI, 960, .inl rr)), (am 3, .inl (cS, 14641, .inl co)), (am 4, .inl (cB, 240, .inl mk)), (am 5, .inl (cB, 240, .inl mf)), (am 6, .inl (cB, 240, .inl mg)), (am 7, .inl (cI, 240, .inl mv))] : va_W) ++ ([] : va_W)) := hD
    refine lv_aload_n hx hb dX5_diff_23 rfl (lv_at hl 0 rfl) ?_
    refine va_get (D := (dC, dI)) (ci := 5) (v := .int (nI 1)) (C := RX5) (T := TX5) (N := 19) hx hb hz hinX5 hown hK hP 0 rfl rfl 0 (by decide) (hz _ zw_478) (fun _ h9 => h9) rfl dX5_diff_24 ?_
    refine lv_if_le (tgt := 32) hx hb dX5_diff_27 (by decide) (fun ck1 => ?_) (fun ck1 => ?_)
    · exact absurd ck1 (by decide)
    · refine lv_iconst (v := nI 0) hx hb dX5_diff_30 (by decide) ?_
      exact hret H locs _ ([(am 0, .inr (5, [.int (nI 1), .ref (am 1), .ref (am 2), .ref (am 3), .int st, .ref (am 4), .ref (am 5), .ref (am 6), .ref (am 7), .ref (am 8), .ref (am 9), .ref (am 10), .int en, .int cf, .ref (am 11), .ref (am 12), .ref (am 13), .ref (am 14), .ref (am 15)])), (am 1, .inl (cI, 8, .inl sz)), (am 2, .inl (cI, 960, .inl rr)), (am 3, .inl (cS, 14641, .inl co)), (am 4, .inl (cB, 240, .inl mk)), (am 5, .inl (cB, 240, .inl mf)), (am 6, .inl (cB, 240, .inl mg)), (am 7, .inl (cI, 240, .inl mv))] : va_W) _ ls hP hD hS dX5_diff_31 (Or.inl ⟨Or.inl hnoc1, rfl⟩)
  · obtain ⟨r1, hr1, rfl⟩ : ∃ r : Nat, r < 8 ∧ x = nI r := by rcases h1 with ⟨r, g1, g2, g3⟩ | ⟨g1, g2⟩; exact ⟨r, g1, g2⟩; exact absurd (by rw [g2]; decide) c1
    have hnr1 := hns r1 hr1
    refine lv_iload_n hx hb dX5_diff_8 rfl (lv_at hl 2 rfl) ?_
    refine z_ciQ (wr := ([(am 0, .inr (5, [.int cd, .ref (am 1), .ref (am 2), .ref (am 3), .int st, .ref (am 4), .ref (am 5), .ref (am 6), .ref (am 7), .ref (am 8), .ref (am 9), .ref (am 10), .int en, .int cf, .ref (am 11), .ref (am 12), .ref (am 13), .ref (am 14), .ref (am 15)])), (am 1, .inl (cI, 8, .inl sz)), (am 2, .inl (cI, 960, .inl rr)), (am 3, .inl (cS, 14641, .inl co)), (am 4, .inl (cB, 240, .inl mk)), (am 5, .inl (cB, 240, .inl mf)), (am 6, .inl (cB, 240, .inl mg)), (am 7, .inl (cI, 240, .inl mv))] : va_W)) (cx := ([] : va_W)) hP hD hS hA [] [0, 1, 2, 3, 4, 5, 6, 7] rfl rfl (by decide) (by decide) (va_runS (As := [.int y]) (rest := [.ref (am 0)]) ⟨hx, hb, hml, hown, hz⟩ (c_M_isRow l dC dI cI cS cB cZ y H.size) (cwS 1 hz (zgS zw_546 zw_547 zw_27 zw_548) rfl rfl rfl (by decide +kernel) ⟨Nat.le_of_ble_eq_true rfl, Nat.le_of_ble_eq_true rfl⟩) ⟨zP_blind, z_preQ hK hN hP hD [] rfl (by decide)⟩ rfl rfl hl.1 rfl (lv_room (Nat.le_of_ble_eq_true rfl)) dX5_diff_9 ⟨Nat.le_of_ble_eq_true rfl, Nat.le_of_ble_eq_true rfl⟩) (fun v1 w1 H locs hw hP hD hS => ?_)
    obtain ⟨h1, hw⟩ := hw
    subst hw
    have hP : va_P (dC, dI) vwCl (([(am 0, .inr (5, [.int cd, .ref (am 1), .ref (am 2), .ref (am 3), .int st, .ref (am 4), .ref (am 5), .ref (am 6), .ref (am 7), .ref (am 8), .ref (am 9), .ref (am 10), .int en, .int cf, .ref (am 11), .ref (am 12), .ref (am 13), .ref (am 14), .ref (am 15)])), (am 1, .inl (cI, 8, .inl sz)), (am 2, .inl (cI, 960, .inl rr)), (am 3, .inl (cS, 14641, .inl co)), (am 4, .inl (cB, 240, .inl mk)), (am 5, .inl (cB, 240, .inl mf)), (am 6, .inl (cB, 240, .inl mg)), (am 7, .inl (cI, 240, .inl mv))] : va_W) ++ ([] : va_W)) H := hP
    have hD : va_D A (([(am 0, .inr (5, [.int cd, .ref (am 1), .ref (am 2), .ref (am 3), .int st, .ref (am 4), .ref (am 5), .ref (am 6), .ref (am 7), .ref (am 8), .ref (am 9), .ref (am 10), .int en, .int cf, .ref (am 11), .ref (am 12), .ref (am 13), .ref (am 14), .ref (am 15)])), (am 1, .inl (cI, 8, .inl sz)), (am 2, .inl (cI, 960, .inl rr)), (am 3, .inl (cS, 14641, .inl co)), (am 4, .inl (cB, 240, .inl mk)), (am 5, .inl (cB, 240, .inl mf)), (am 6, .inl (cB, 240, .inl mg)), (am 7, .inl (cI, 240, .inl mv))] : va_W) ++ ([] : va_W)) := hD
    refine lv_if_eq (tgt := 19) hx hb dX5_diff_12 (by decide) (fun c2 => ?_) (fun c2 => ?_)
    · have hnoc2 : ∀ r, r < 8 → y ≠ nI r := by rcases h1 with ⟨r, g1, g2, g3⟩ | ⟨g1, g2⟩; exact absurd (by rw [g3] at c2; exact c2) (by decide); exact g1
      refine lv_iconst (v := nI 1) hx hb dX5_diff_19 (by decide) ?_
      refine va_put (D := (dC, dI)) (ci := 5) (v := .int (nI 1)) (ty := .int) (C := RX5) (T := TX5) (N := 19) hx hb hz hinX5 tyX5 tyX5_ok nmX5 hown hK hP hD hS 0 rfl rfl 0 (by decide) (hz _ zw_478) (fun _ h9 => h9) rfl (by decide +kernel) rfl rfl (Nat.le_of_ble_eq_true rfl) dX5_diff_20 (fun H locs hP hD hS => ?_)
      have hP : va_P (dC, dI) vwCl (([(am 0, .inr (5, [.int (nI 1), .ref (am 1), .ref (am 2), .ref (am 3), .int st, .ref (am 4), .ref (am 5), .ref (am 6), .ref (am 7), .ref (am 8), .ref (am 9), .ref (am 10), .int en, .int cf, .ref (am 11), .ref (am 12), .ref (am 13), .ref (am 14), .ref (am 15)])), (am 1, .inl (cI, 8, .inl sz)), (am 2, .inl (cI, 960, .inl rr)), (am 3, .inl (cS, 14641, .inl co)), (am 4, .inl (cB, 240, .inl mk)), (am 5, .inl (cB, 240, .inl mf)), (am 6, .inl (cB, 240, .inl mg)), (am 7, .inl (cI, 240, .inl mv))] : va_W) ++ ([] : va_W)) H := hP
      have hD : va_D A (([(am 0, .inr (5, [.int (nI 1), .ref (am 1), .ref (am 2), .ref (am 3), .int st, .ref (am 4), .ref (am 5), .ref (am 6), .ref (am 7), .ref (am 8), .ref (am 9), .ref (am 10), .int en, .int cf, .ref (am 11), .ref (am 12), .ref (am 13), .ref (am 14), .ref (am 15)])), (am 1, .inl (cI, 8, .inl sz)), (am 2, .inl (cI, 960, .inl rr)), (am 3, .inl (cS, 14641, .inl co)), (am 4, .inl (cB, 240, .inl mk)), (am 5, .inl (cB, 240, .inl mf)), (am 6, .inl (cB, 240, .inl mg)), (am 7, .inl (cI, 240, .inl mv))] : va_W) ++ ([] : va_W)) := hD
      refine lv_aload_n hx hb dX5_diff_23 rfl (lv_at hl 0 rfl) ?_
      refine va_get (D := (dC, dI)) (ci := 5) (v := .int (nI 1)) (C := RX5) (T := TX5) (N := 19) hx hb hz hinX5 hown hK hP 0 rfl rfl 0 (by decide) (hz _ zw_478) (fun _ h9 => h9) rfl dX5_diff_24 ?_
      refine lv_if_le (tgt := 32) hx hb dX5_diff_27 (by decide) (fun ck2 => ?_) (fun ck2 => ?_)
      · exact absurd ck2 (by decide)
      · refine lv_iconst (v := nI 0) hx hb dX5_diff_30 (by decide) ?_
        exact hret H locs _ ([(am 0, .inr (5, [.int (nI 1), .ref (am 1), .ref (am 2), .ref (am 3), .int st, .ref (am 4), .ref (am 5), .ref (am 6), .ref (am 7), .ref (am 8), .ref (am 9), .ref (am 10), .int en, .int cf, .ref (am 11), .ref (am 12), .ref (am 13), .ref (am 14), .ref (am 15)])), (am 1, .inl (cI, 8, .inl sz)), (am 2, .inl (cI, 960, .inl rr)), (am 3, .inl (cS, 14641, .inl co)), (am 4, .inl (cB, 240, .inl mk)), (am 5, .inl (cB, 240, .inl mf)), (am 6, .inl (cB, 240, .inl mg)), (am 7, .inl (cI, 240, .inl mv))] : va_W) _ ls hP hD hS dX5_diff_31 (Or.inl ⟨Or.inr hnoc2, rfl⟩)
    · obtain ⟨r2, hr2, rfl⟩ : ∃ r : Nat, r < 8 ∧ y = nI r := by rcases h1 with ⟨r, g1, g2, g3⟩ | ⟨g1, g2⟩; exact ⟨r, g1, g2⟩; exact absurd (by rw [g2]; decide) c2
      have hnr2 := hns r2 hr2
      refine lv_iconst (v := nI 0) hx hb dX5_diff_15 (by decide) ?_
      refine lv_goto (tgt := 20) hx hb dX5_diff_16 (by decide) ?_
      refine va_put (D := (dC, dI)) (ci := 5) (v := .int (nI 0)) (ty := .int) (C := RX5) (T := TX5) (N := 19) hx hb hz hinX5 tyX5 tyX5_ok nmX5 hown hK hP hD hS 0 rfl rfl 0 (by decide) (hz _ zw_478) (fun _ h9 => h9) rfl (by decide +kernel) rfl rfl (Nat.le_of_ble_eq_true rfl) dX5_diff_20 (fun H locs hP hD hS => ?_)
      have hP : va_P (dC, dI) vwCl (([(am 0, .inr (5, [.int (nI 0), .ref (am 1), .ref (am 2), .ref (am 3), .int st, .ref (am 4), .ref (am 5), .ref (am 6), .ref (am 7), .ref (am 8), .ref (am 9), .ref (am 10), .int en, .int cf, .ref (am 11), .ref (am 12), .ref (am 13), .ref (am 14), .ref (am 15)])), (am 1, .inl (cI, 8, .inl sz)), (am 2, .inl (cI, 960, .inl rr)), (am 3, .inl (cS, 14641, .inl co)), (am 4, .inl (cB, 240, .inl mk)), (am 5, .inl (cB, 240, .inl mf)), (am 6, .inl (cB, 240, .inl mg)), (am 7, .inl (cI, 240, .inl mv))] : va_W) ++ ([] : va_W)) H := hP
      have hD : va_D A (([(am 0, .inr (5, [.int (nI 0), .ref (am 1), .ref (am 2), .ref (am 3), .int st, .ref (am 4), .ref (am 5), .ref (am 6), .ref (am 7), .ref (am 8), .ref (am 9), .ref (am 10), .int en, .int cf, .ref (am 11), .ref (am 12), .ref (am 13), .ref (am 14), .ref (am 15)])), (am 1, .inl (cI, 8, .inl sz)), (am 2, .inl (cI, 960, .inl rr)), (am 3, .inl (cS, 14641, .inl co)), (am 4, .inl (cB, 240, .inl mk)), (am 5, .inl (cB, 240, .inl mf)), (am 6, .inl (cB, 240, .inl mg)), (am 7, .inl (cI, 240, .inl mv))] : va_W) ++ ([] : va_W)) := hD
      refine lv_aload_n hx hb dX5_diff_23 rfl (lv_at hl 0 rfl) ?_
      refine va_get (D := (dC, dI)) (ci := 5) (v := .int (nI 0)) (C := RX5) (T := TX5) (N := 19) hx hb hz hinX5 hown hK hP 0 rfl rfl 0 (by decide) (hz _ zw_478) (fun _ h9 => h9) rfl dX5_diff_24 ?_
      refine lv_if_le (tgt := 32) hx hb dX5_diff_27 (by decide) (fun ck3 => ?_) (fun ck3 => ?_)
      · refine lv_aload_n hx hb dX5_diff_32 rfl (lv_at hl 0 rfl) ?_
        refine lv_iload_n hx hb dX5_diff_33 rfl (lv_at hl 1 rfl) ?_
        refine lv_iload_n hx hb dX5_diff_34 rfl (lv_at hl 2 rfl) ?_
        refine z_ciQ (wr := ([(am 4, .inl (cB, 240, .inl mk)), (am 5, .inl (cB, 240, .inl mf)), (am 6, .inl (cB, 240, .inl mg)), (am 7, .inl (cI, 240, .inl mv))] : va_W)) (cx := ([(am 0, .inr (5, [.int (nI 0), .ref (am 1), .ref (am 2), .ref (am 3), .int st, .ref (am 4), .ref (am 5), .ref (am 6), .ref (am 7), .ref (am 8), .ref (am 9), .ref (am 10), .int en, .int cf, .ref (am 11), .ref (am 12), .ref (am 13), .ref (am 14), .ref (am 15)])), (am 1, .inl (cI, 8, .inl sz)), (am 2, .inl (cI, 960, .inl rr)), (am 3, .inl (cS, 14641, .inl co))] : va_W)) hP hD hS hA [0, 1, 2, 3] [4, 5, 6, 7] rfl rfl (by decide) (by decide) (va_runV (As := [.int (nI r1), .int (nI r2)]) (rest := []) ⟨hx, hb, hml, hown, hz⟩ (c_M_measure l dC dI cI cS cB cZ am (nI 0) st en cf sz rr co ns fs hns hsz hrw r1 r2 hr1 hr2 H.size) (cwV 2 hz (zgV zw_565 zw_567 zw_12 zw_27 zw_568) rfl rfl rfl (by decide +kernel) ⟨Nat.le_of_ble_eq_true rfl, Nat.le_of_ble_eq_true rfl⟩) ⟨zP_blind, z_recv hK hP (ci := 5) rfl rfl (q0 := 0) rfl, z_preQ hK hN hP hD [0, 1, 2, 3] rfl (by decide)⟩ rfl rfl hl.1 rfl (lv_room (Nat.le_of_ble_eq_true rfl)) dX5_diff_35 ⟨Nat.le_of_ble_eq_true rfl, Nat.le_of_ble_eq_true rfl⟩) (fun v3 w1 H locs hw hP hD hS => ?_)
        obtain ⟨rfl, co2, hco, hw⟩ := hw
        subst hw
        have hP : va_P (dC, dI) vwCl (([(am 4, .inl (cB, 240, .inl mk)), (am 5, .inl (cB, 240, .inl mf)), (am 6, .inl (cB, 240, .inl mg)), (am 7, .inl (cI, 240, .inl mv)), (am 0, .inr (5, [.int (nI 0), .ref (am 1), .ref (am 2), .ref (am 3), .int st, .ref (am 4), .ref (am 5), .ref (am 6), .ref (am 7), .ref (am 8), .ref (am 9), .ref (am 10), .int en, .int cf, .ref (am 11), .ref (am 12), .ref (am 13), .ref (am 14), .ref (am 15)])), (am 1, .inl (cI, 8, .inl sz)), (am 2, .inl (cI, 960, .inl rr)), (am 3, .inl (cS, 14641, .inl co2))] : va_W) ++ ([] : va_W)) H := hP
        have hD : va_D A (([(am 4, .inl (cB, 240, .inl mk)), (am 5, .inl (cB, 240, .inl mf)), (am 6, .inl (cB, 240, .inl mg)), (am 7, .inl (cI, 240, .inl mv)), (am 0, .inr (5, [.int (nI 0), .ref (am 1), .ref (am 2), .ref (am 3), .int st, .ref (am 4), .ref (am 5), .ref (am 6), .ref (am 7), .ref (am 8), .ref (am 9), .ref (am 10), .int en, .int cf, .ref (am 11), .ref (am 12), .ref (am 13), .ref (am 14), .ref (am 15)])), (am 1, .inl (cI, 8, .inl sz)), (am 2, .inl (cI, 960, .inl rr)), (am 3, .inl (cS, 14641, .inl co2))] : va_W) ++ ([] : va_W)) := hD
        have hP := z_permP (cx := ([(am 0, .inr (5, [.int (nI 0), .ref (am 1), .ref (am 2), .ref (am 3), .int st, .ref (am 4), .ref (am 5), .ref (am 6), .ref (am 7), .ref (am 8), .ref (am 9), .ref (am 10), .int en, .int cf, .ref (am 11), .ref (am 12), .ref (am 13), .ref (am 14), .ref (am 15)])), (am 1, .inl (cI, 8, .inl sz)), (am 2, .inl (cI, 960, .inl rr)), (am 3, .inl (cS, 14641, .inl co2)), (am 4, .inl (cB, 240, .inl mk)), (am 5, .inl (cB, 240, .inl mf)), (am 6, .inl (cB, 240, .inl mg)), (am 7, .inl (cI, 240, .inl mv))] : va_W)) hP [4, 5, 6, 7, 0, 1, 2, 3] rfl
        have hD := z_permD (cx := ([(am 0, .inr (5, [.int (nI 0), .ref (am 1), .ref (am 2), .ref (am 3), .int st, .ref (am 4), .ref (am 5), .ref (am 6), .ref (am 7), .ref (am 8), .ref (am 9), .ref (am 10), .int en, .int cf, .ref (am 11), .ref (am 12), .ref (am 13), .ref (am 14), .ref (am 15)])), (am 1, .inl (cI, 8, .inl sz)), (am 2, .inl (cI, 960, .inl rr)), (am 3, .inl (cS, 14641, .inl co2)), (am 4, .inl (cB, 240, .inl mk)), (am 5, .inl (cB, 240, .inl mf)), (am 6, .inl (cB, 240, .inl mg)), (am 7, .inl (cI, 240, .inl mv))] : va_W)) hD [4, 5, 6, 7, 0, 1, 2, 3] rfl (by decide)
        have hdl := dc_le (F := fs r1) (G := fs r2) (na := ns r1) (nb := ns r2) (i := 0) (j := 0)
        refine lv_istore_n (lv' := [(3, .int (nI (dc (fs r1) (fs r2) (ns r1) (ns r2) 0 0))), (0, .ref (am 0)), (1, .int (nI r1)), (2, .int (nI r2))]) hx hb dX5_diff_38 rfl hl (by decide) rfl (fun ls hl => ?_)
        refine lv_iload_n hx hb dX5_diff_39 rfl (lv_at hl 0 rfl) ?_
        refine lv_bipush (v := nI 100) hx hb dX5_diff_40 (by decide) ?_
        refine lv_icmp_le (tgt := 51) hx hb dX5_diff_42 (by decide) (fun bb4 => ?_) (fun bb4 => ?_)
        · have bb4 : (dc (fs r1) (fs r2) (ns r1) (ns r2) 0 0) ≤ 100 := (nI_leI (by omega) (by omega)).mp bb4
          refine lv_aload_n hx hb dX5_diff_51 rfl (lv_at hl 1 rfl) ?_
          refine lv_iconst (v := nI 0) hx hb dX5_diff_52 (by decide) ?_
          refine va_put (D := (dC, dI)) (ci := 5) (v := .int (nI 0)) (ty := .int) (C := RX5) (T := TX5) (N := 19) hx hb hz hinX5 tyX5 tyX5_ok nmX5 hown hK hP hD hS 0 rfl rfl 4 (by decide) (hz _ zw_482) (fun _ h9 => h9) rfl (by decide +kernel) rfl rfl (Nat.le_of_ble_eq_true rfl) dX5_diff_53 (fun H locs hP hD hS => ?_)
          have hP : va_P (dC, dI) vwCl (([(am 0, .inr (5, [.int (nI 0), .ref (am 1), .ref (am 2), .ref (am 3), .int (nI 0), .ref (am 4), .ref (am 5), .ref (am 6), .ref (am 7), .ref (am 8), .ref (am 9), .ref (am 10), .int en, .int cf, .ref (am 11), .ref (am 12), .ref (am 13), .ref (am 14), .ref (am 15)])), (am 1, .inl (cI, 8, .inl sz)), (am 2, .inl (cI, 960, .inl rr)), (am 3, .inl (cS, 14641, .inl co2)), (am 4, .inl (cB, 240, .inl mk)), (am 5, .inl (cB, 240, .inl mf)), (am 6, .inl (cB, 240, .inl mg)), (am 7, .inl (cI, 240, .inl mv))] : va_W) ++ ([] : va_W)) H := hP
          have hD : va_D A (([(am 0, .inr (5, [.int (nI 0), .ref (am 1), .ref (am 2), .ref (am 3), .int (nI 0), .ref (am 4), .ref (am 5), .ref (am 6), .ref (am 7), .ref (am 8), .ref (am 9), .ref (am 10), .int en, .int cf, .ref (am 11), .ref (am 12), .ref (am 13), .ref (am 14), .ref (am 15)])), (am 1, .inl (cI, 8, .inl sz)), (am 2, .inl (cI, 960, .inl rr)), (am 3, .inl (cS, 14641, .inl co2)), (am 4, .inl (cB, 240, .inl mk)), (am 5, .inl (cB, 240, .inl mf)), (am 6, .inl (cB, 240, .inl mg)), (am 7, .inl (cI, 240, .inl mv))] : va_W) ++ ([] : va_W)) := hD
          refine lv_iconst (v := nI 0) hx hb dX5_diff_56 (by decide) ?_
          refine lv_istore (lv' := [(4, .int (nI 0)), (3, .int (nI (dc (fs r1) (fs r2) (ns r1) (ns r2) 0 0))), (0, .ref (am 0)), (1, .int (nI r1)), (2, .int (nI r2))]) hx hb dX5_diff_57 hl (by decide) rfl (fun ls hl => ?_)
          refine lv_iconst (v := nI 0) hx hb dX5_diff_59 (by decide) ?_
          refine lv_istore (lv' := [(5, .int (nI 0)), (4, .int (nI 0)), (3, .int (nI (dc (fs r1) (fs r2) (ns r1) (ns r2) 0 0))), (0, .ref (am 0)), (1, .int (nI r1)), (2, .int (nI r2))]) hx hb dX5_diff_60 hl (by decide) rfl (fun ls hl => ?_)
          refine lv_aload_n hx hb dX5_diff_62 rfl (lv_at hl 3 rfl) ?_
          refine lv_iload_n hx hb dX5_diff_63 rfl (lv_at hl 4 rfl) ?_
          refine lv_iconst (v := nI 0) hx hb dX5_diff_64 (by decide) ?_
          refine lv_iload_n hx hb dX5_diff_65 rfl (lv_at hl 5 rfl) ?_
          refine lv_iconst (v := nI 0) hx hb dX5_diff_66 (by decide) ?_
          have q0 : 0 + 0 ≤ ns r1 + ns r2 := by omega
          refine z_ciQ (wr := ([(am 4, .inl (cB, 240, .inl mk)), (am 5, .inl (cB, 240, .inl mf)), (am 6, .inl (cB, 240, .inl mg)), (am 7, .inl (cI, 240, .inl mv))] : va_W)) (cx := ([(am 0, .inr (5, [.int (nI 0), .ref (am 1), .ref (am 2), .ref (am 3), .int (nI 0), .ref (am 4), .ref (am 5), .ref (am 6), .ref (am 7), .ref (am 8), .ref (am 9), .ref (am 10), .int en, .int cf, .ref (am 11), .ref (am 12), .ref (am 13), .ref (am 14), .ref (am 15)])), (am 1, .inl (cI, 8, .inl sz)), (am 2, .inl (cI, 960, .inl rr)), (am 3, .inl (cS, 14641, .inl co2))] : va_W)) hP hD hS hA [0, 1, 2, 3] [4, 5, 6, 7] rfl rfl (by decide) (by decide) (va_runV (As := [.int (nI r1), .int (nI 0), .int (nI r2), .int (nI 0)]) (rest := []) ⟨hx, hb, hml, hown, hz⟩ (c_M_due l dC dI cI cS cB cZ am (nI 0) (nI 0) en cf sz rr co2 ns fs hns hsz hrw r1 0 r2 0 hr1 hr2 (by omega) (by omega) hco H.size) (cwV 4 hz (zgV zw_577 zw_579 zw_15 zw_27 zw_580) rfl rfl rfl (by decide +kernel) ⟨Nat.le_of_ble_eq_true rfl, Nat.le_of_ble_eq_true rfl⟩) ⟨zP_blind, z_recv hK hP (ci := 5) rfl rfl (q0 := 0) rfl, z_preQ hK hN hP hD [0, 1, 2, 3] rfl (by decide)⟩ rfl rfl hl.1 rfl (lv_room (Nat.le_of_ble_eq_true rfl)) dX5_diff_67 ⟨Nat.le_of_ble_eq_true rfl, Nat.le_of_ble_eq_true rfl⟩) (fun v7 w1 H locs hw hP hD hS => ?_)
          obtain ⟨h7, hw⟩ := hw
          subst hw
          have hP : va_P (dC, dI) vwCl (([(am 4, .inl (cB, 240, .inl mk)), (am 5, .inl (cB, 240, .inl mf)), (am 6, .inl (cB, 240, .inl mg)), (am 7, .inl (cI, 240, .inl mv)), (am 0, .inr (5, [.int (nI 0), .ref (am 1), .ref (am 2), .ref (am 3), .int (nI 0), .ref (am 4), .ref (am 5), .ref (am 6), .ref (am 7), .ref (am 8), .ref (am 9), .ref (am 10), .int en, .int cf, .ref (am 11), .ref (am 12), .ref (am 13), .ref (am 14), .ref (am 15)])), (am 1, .inl (cI, 8, .inl sz)), (am 2, .inl (cI, 960, .inl rr)), (am 3, .inl (cS, 14641, .inl co2))] : va_W) ++ ([] : va_W)) H := hP
          have hD : va_D A (([(am 4, .inl (cB, 240, .inl mk)), (am 5, .inl (cB, 240, .inl mf)), (am 6, .inl (cB, 240, .inl mg)), (am 7, .inl (cI, 240, .inl mv)), (am 0, .inr (5, [.int (nI 0), .ref (am 1), .ref (am 2), .ref (am 3), .int (nI 0), .ref (am 4), .ref (am 5), .ref (am 6), .ref (am 7), .ref (am 8), .ref (am 9), .ref (am 10), .int en, .int cf, .ref (am 11), .ref (am 12), .ref (am 13), .ref (am 14), .ref (am 15)])), (am 1, .inl (cI, 8, .inl sz)), (am 2, .inl (cI, 960, .inl rr)), (am 3, .inl (cS, 14641, .inl co2))] : va_W) ++ ([] : va_W)) := hD
          have hP := z_permP (cx := ([(am 0, .inr (5, [.int (nI 0), .ref (am 1), .ref (am 2), .ref (am 3), .int (nI 0), .ref (am 4), .ref (am 5), .ref (am 6), .ref (am 7), .ref (am 8), .ref (am 9), .ref (am 10), .int en, .int cf, .ref (am 11), .ref (am 12), .ref (am 13), .ref (am 14), .ref (am 15)])), (am 1, .inl (cI, 8, .inl sz)), (am 2, .inl (cI, 960, .inl rr)), (am 3, .inl (cS, 14641, .inl co2)), (am 4, .inl (cB, 240, .inl mk)), (am 5, .inl (cB, 240, .inl mf)), (am 6, .inl (cB, 240, .inl mg)), (am 7, .inl (cI, 240, .inl mv))] : va_W)) hP [4, 5, 6, 7, 0, 1, 2, 3] rfl
          have hD := z_permD (cx := ([(am 0, .inr (5, [.int (nI 0), .ref (am 1), .ref (am 2), .ref (am 3), .int (nI 0), .ref (am 4), .ref (am 5), .ref (am 6), .ref (am 7), .ref (am 8), .ref (am 9), .ref (am 10), .int en, .int cf, .ref (am 11), .ref (am 12), .ref (am 13), .ref (am 14), .ref (am 15)])), (am 1, .inl (cI, 8, .inl sz)), (am 2, .inl (cI, 960, .inl rr)), (am 3, .inl (cS, 14641, .inl co2)), (am 4, .inl (cB, 240, .inl mk)), (am 5, .inl (cB, 240, .inl mf)), (am 6, .inl (cB, 240, .inl mg)), (am 7, .inl (cI, 240, .inl mv))] : va_W)) hD [4, 5, 6, 7, 0, 1, 2, 3] rfl (by decide)
          refine lv_istore (lv' := [(6, .int v7), (5, .int (nI 0)), (4, .int (nI 0)), (3, .int (nI (dc (fs r1) (fs r2) (ns r1) (ns r2) 0 0))), (0, .ref (am 0)), (1, .int (nI r1)), (2, .int (nI r2))]) hx hb dX5_diff_70 hl (by decide) rfl (fun ls hl => ?_)
          have L1 : ∀ (d : Nat) (k : Nat) (i : Nat) (j : Nat) (v6 : Int32) (K1 : Nat → Int32) (F1 : Nat → Int32) (G1 : Nat → Int32) (V1 : Nat → Int32) (H : Heap) (locs : List Loc) (ls : Array Slot), ns r1 + ns r2 ≤ i + j + d → ps (fs r1) (fs r2) (ns r1) (ns r2) k = (i, j) → i ≤ ns r1 → j ≤ ns r2 → k ≤ i + j → (∀ k', k' < k → (ps (fs r1) (fs r2) (ns r1) (ns r2) k').1 < ns r1 ∨ (ps (fs r1) (fs r2) (ns r1) (ns r2) k').2 < ns r2) → agr (fs r1) (fs r2) (ns r1) (ns r2) K1 F1 G1 V1 k → v6 = (if i = ns r1 ∧ j = ns r2 then -1 else nI (kd (fs r1) (fs r2) (ns r1) (ns r2) i j)) → va_P (dC, dI) vwCl (([(am 0, .inr (5, [.int (nI 0), .ref (am 1), .ref (am 2), .ref (am 3), .int (nI k), .ref (am 4), .ref (am 5), .ref (am 6), .ref (am 7), .ref (am 8), .ref (am 9), .ref (am 10), .int en, .int cf, .ref (am 11), .ref (am 12), .ref (am 13), .ref (am 14), .ref (am 15)])), (am 1, .inl (cI, 8, .inl sz)), (am 2, .inl (cI, 960, .inl rr)), (am 3, .inl (cS, 14641, .inl co2)), (am 4, .inl (cB, 240, .inl K1)), (am 5, .inl (cB, 240, .inl F1)), (am 6, .inl (cB, 240, .inl G1)), (am 7, .inl (cI, 240, .inl V1))] : va_W) ++ ([] : va_W)) H → va_D A (([(am 0, .inr (5, [.int (nI 0), .ref (am 1), .ref (am 2), .ref (am 3), .int (nI k), .ref (am 4), .ref (am 5), .ref (am 6), .ref (am 7), .ref (am 8), .ref (am 9), .ref (am 10), .int en, .int cf, .ref (am 11), .ref (am 12), .ref (am 13), .ref (am 14), .ref (am 15)])), (am 1, .inl (cI, 8, .inl sz)), (am 2, .inl (cI, 960, .inl rr)), (am 3, .inl (cS, 14641, .inl co2)), (am 4, .inl (cB, 240, .inl K1)), (am 5, .inl (cB, 240, .inl F1)), (am 6, .inl (cB, 240, .inl G1)), (am 7, .inl (cI, 240, .inl V1))] : va_W) ++ ([] : va_W)) → va_S A s.heap H locs → lv_has ls 7 [(6, .int v6), (5, .int (nI j)), (4, .int (nI i)), (3, .int (nI (dc (fs r1) (fs r2) (ns r1) (ns r2) 0 0))), (0, .ref (am 0)), (1, .int (nI r1)), (2, .int (nI r2))] → W p l e rm_X5_diff s m args below meth c H locs 0 0 Q (F0 m 72 ls []) := by
            intro d
            induction d with
            | zero =>
              intro k i j v6 K1 F1 G1 V1 H locs ls hd hps hi hj hij hnd hag hv6 hP hD hS hl
              obtain rfl : v6 = -1 := by rw [hv6, if_pos (by omega)]
              refine lv_iload hx hb dX5_diff_72 (lv_at hl 0 rfl) ?_
              refine lv_if_lt (tgt := 212) hx hb dX5_diff_74 (by decide) (fun ck5 => ?_) (fun ck5 => ?_)
              · refine lv_iload_n hx hb dX5_diff_212 rfl (lv_at hl 3 rfl) ?_
                exact hret H locs _ ([(am 0, .inr (5, [.int (nI 0), .ref (am 1), .ref (am 2), .ref (am 3), .int (nI k), .ref (am 4), .ref (am 5), .ref (am 6), .ref (am 7), .ref (am 8), .ref (am 9), .ref (am 10), .int en, .int cf, .ref (am 11), .ref (am 12), .ref (am 13), .ref (am 14), .ref (am 15)])), (am 1, .inl (cI, 8, .inl sz)), (am 2, .inl (cI, 960, .inl rr)), (am 3, .inl (cS, 14641, .inl co2)), (am 4, .inl (cB, 240, .inl K1)), (am 5, .inl (cB, 240, .inl F1)), (am 6, .inl (cB, 240, .inl G1)), (am 7, .inl (cI, 240, .inl V1))] : va_W) _ ls hP hD hS dX5_diff_213 (Or.inr ⟨r1, r2, hr1, hr2, rfl, rfl, co2, Or.inr ⟨by omega, rfl, k, K1, F1, G1, V1, by omega, by rw [hps, show i = ns r1 by omega, show j = ns r2 by omega], hnd, hag, rfl⟩⟩)
              · exact absurd ck5 (by decide)
            | succ d ih =>
              intro k i j v6 K1 F1 G1 V1 H locs ls hd hps hi hj hij hnd hag hv6 hP hD hS hl
              by_cases hdn : i = ns r1 ∧ j = ns r2
              · obtain rfl : v6 = -1 := by rw [hv6, if_pos (by omega)]
                refine lv_iload hx hb dX5_diff_72 (lv_at hl 0 rfl) ?_
                refine lv_if_lt (tgt := 212) hx hb dX5_diff_74 (by decide) (fun ck6 => ?_) (fun ck6 => ?_)
                · refine lv_iload_n hx hb dX5_diff_212 rfl (lv_at hl 3 rfl) ?_
                  exact hret H locs _ ([(am 0, .inr (5, [.int (nI 0), .ref (am 1), .ref (am 2), .ref (am 3), .int (nI k), .ref (am 4), .ref (am 5), .ref (am 6), .ref (am 7), .ref (am 8), .ref (am 9), .ref (am 10), .int en, .int cf, .ref (am 11), .ref (am 12), .ref (am 13), .ref (am 14), .ref (am 15)])), (am 1, .inl (cI, 8, .inl sz)), (am 2, .inl (cI, 960, .inl rr)), (am 3, .inl (cS, 14641, .inl co2)), (am 4, .inl (cB, 240, .inl K1)), (am 5, .inl (cB, 240, .inl F1)), (am 6, .inl (cB, 240, .inl G1)), (am 7, .inl (cI, 240, .inl V1))] : va_W) _ ls hP hD hS dX5_diff_213 (Or.inr ⟨r1, r2, hr1, hr2, rfl, rfl, co2, Or.inr ⟨by omega, rfl, k, K1, F1, G1, V1, by omega, by rw [hps, show i = ns r1 by omega, show j = ns r2 by omega], hnd, hag, rfl⟩⟩)
                · exact absurd ck6 (by decide)
              · rw [if_neg hdn] at hv6
                rcases kd_cases (F := fs r1) (G := fs r2) hi hj hdn with ⟨hkd, hi2, hj2⟩ | ⟨hkd, hi2⟩ | ⟨hkd, hj2⟩
                · rw [hkd] at hv6
                  subst hv6
                  refine lv_iload hx hb dX5_diff_72 (lv_at hl 0 rfl) ?_
                  refine lv_if_lt (tgt := 212) hx hb dX5_diff_74 (by decide) (fun ck7 => ?_) (fun ck7 => ?_)
                  · exact absurd ck7 (by decide)
                  · refine lv_aload_n hx hb dX5_diff_77 rfl (lv_at hl 4 rfl) ?_
                    refine va_get (D := (dC, dI)) (ci := 5) (v := .ref (am 4)) (C := RX5) (T := TX5) (N := 19) hx hb hz hinX5 hown hK hP 0 rfl rfl 5 (by decide) (hz _ zw_483) (fun _ h9 => h9) rfl dX5_diff_78 ?_
                    refine lv_aload_n hx hb dX5_diff_81 rfl (lv_at hl 4 rfl) ?_
                    refine va_get (D := (dC, dI)) (ci := 5) (v := .int (nI k)) (C := RX5) (T := TX5) (N := 19) hx hb hz hinX5 hown hK hP 0 rfl rfl 4 (by decide) (hz _ zw_482) (fun _ h9 => h9) rfl dX5_diff_82 ?_
                    refine lv_iload hx hb dX5_diff_85 (lv_at hl 0 rfl) ?_
                    refine t_i2b hx hb dX5_diff_87 (b8 _ (by omega)) ?_
                    refine z_bast hx hb hK hP hD hS 4 2 rfl rfl (k := k) (by omega) (by omega) (n8 (by omega)) dX5_diff_88 (fun H locs hP hD hS => ?_)
                    have hP : va_P (dC, dI) vwCl (([(am 0, .inr (5, [.int (nI 0), .ref (am 1), .ref (am 2), .ref (am 3), .int (nI k), .ref (am 4), .ref (am 5), .ref (am 6), .ref (am 7), .ref (am 8), .ref (am 9), .ref (am 10), .int en, .int cf, .ref (am 11), .ref (am 12), .ref (am 13), .ref (am 14), .ref (am 15)])), (am 1, .inl (cI, 8, .inl sz)), (am 2, .inl (cI, 960, .inl rr)), (am 3, .inl (cS, 14641, .inl co2)), (am 4, .inl (cB, 240, .inl (upd K1 k (nI 0)))), (am 5, .inl (cB, 240, .inl F1)), (am 6, .inl (cB, 240, .inl G1)), (am 7, .inl (cI, 240, .inl V1))] : va_W) ++ ([] : va_W)) H := hP
                    have hD : va_D A (([(am 0, .inr (5, [.int (nI 0), .ref (am 1), .ref (am 2), .ref (am 3), .int (nI k), .ref (am 4), .ref (am 5), .ref (am 6), .ref (am 7), .ref (am 8), .ref (am 9), .ref (am 10), .int en, .int cf, .ref (am 11), .ref (am 12), .ref (am 13), .ref (am 14), .ref (am 15)])), (am 1, .inl (cI, 8, .inl sz)), (am 2, .inl (cI, 960, .inl rr)), (am 3, .inl (cS, 14641, .inl co2)), (am 4, .inl (cB, 240, .inl (upd K1 k (nI 0)))), (am 5, .inl (cB, 240, .inl F1)), (am 6, .inl (cB, 240, .inl G1)), (am 7, .inl (cI, 240, .inl V1))] : va_W) ++ ([] : va_W)) := hD
                    refine lv_aload_n hx hb dX5_diff_89 rfl (lv_at hl 4 rfl) ?_
                    refine va_get (D := (dC, dI)) (ci := 5) (v := .ref (am 5)) (C := RX5) (T := TX5) (N := 19) hx hb hz hinX5 hown hK hP 0 rfl rfl 6 (by decide) (hz _ zw_484) (fun _ h9 => h9) rfl dX5_diff_90 ?_
                    refine lv_aload_n hx hb dX5_diff_93 rfl (lv_at hl 4 rfl) ?_
                    refine va_get (D := (dC, dI)) (ci := 5) (v := .int (nI k)) (C := RX5) (T := TX5) (N := 19) hx hb hz hinX5 hown hK hP 0 rfl rfl 4 (by decide) (hz _ zw_482) (fun _ h9 => h9) rfl dX5_diff_94 ?_
                    refine lv_iload hx hb dX5_diff_97 (lv_at hl 2 rfl) ?_
                    refine t_i2b hx hb dX5_diff_99 (b8 _ (by omega)) ?_
                    refine z_bast hx hb hK hP hD hS 5 2 rfl rfl (k := k) (by omega) (by omega) (n8 (by omega)) dX5_diff_100 (fun H locs hP hD hS => ?_)
                    have hP : va_P (dC, dI) vwCl (([(am 0, .inr (5, [.int (nI 0), .ref (am 1), .ref (am 2), .ref (am 3), .int (nI k), .ref (am 4), .ref (am 5), .ref (am 6), .ref (am 7), .ref (am 8), .ref (am 9), .ref (am 10), .int en, .int cf, .ref (am 11), .ref (am 12), .ref (am 13), .ref (am 14), .ref (am 15)])), (am 1, .inl (cI, 8, .inl sz)), (am 2, .inl (cI, 960, .inl rr)), (am 3, .inl (cS, 14641, .inl co2)), (am 4, .inl (cB, 240, .inl (upd K1 k (nI 0)))), (am 5, .inl (cB, 240, .inl (upd F1 k (nI i)))), (am 6, .inl (cB, 240, .inl G1)), (am 7, .inl (cI, 240, .inl V1))] : va_W) ++ ([] : va_W)) H := hP
                    have hD : va_D A (([(am 0, .inr (5, [.int (nI 0), .ref (am 1), .ref (am 2), .ref (am 3), .int (nI k), .ref (am 4), .ref (am 5), .ref (am 6), .ref (am 7), .ref (am 8), .ref (am 9), .ref (am 10), .int en, .int cf, .ref (am 11), .ref (am 12), .ref (am 13), .ref (am 14), .ref (am 15)])), (am 1, .inl (cI, 8, .inl sz)), (am 2, .inl (cI, 960, .inl rr)), (am 3, .inl (cS, 14641, .inl co2)), (am 4, .inl (cB, 240, .inl (upd K1 k (nI 0)))), (am 5, .inl (cB, 240, .inl (upd F1 k (nI i)))), (am 6, .inl (cB, 240, .inl G1)), (am 7, .inl (cI, 240, .inl V1))] : va_W) ++ ([] : va_W)) := hD
                    refine lv_aload_n hx hb dX5_diff_101 rfl (lv_at hl 4 rfl) ?_
                    refine va_get (D := (dC, dI)) (ci := 5) (v := .ref (am 6)) (C := RX5) (T := TX5) (N := 19) hx hb hz hinX5 hown hK hP 0 rfl rfl 7 (by decide) (hz _ zw_485) (fun _ h9 => h9) rfl dX5_diff_102 ?_
                    refine lv_aload_n hx hb dX5_diff_105 rfl (lv_at hl 4 rfl) ?_
                    refine va_get (D := (dC, dI)) (ci := 5) (v := .int (nI k)) (C := RX5) (T := TX5) (N := 19) hx hb hz hinX5 hown hK hP 0 rfl rfl 4 (by decide) (hz _ zw_482) (fun _ h9 => h9) rfl dX5_diff_106 ?_
                    refine lv_iload hx hb dX5_diff_109 (lv_at hl 1 rfl) ?_
                    refine t_i2b hx hb dX5_diff_111 (b8 _ (by omega)) ?_
                    refine z_bast hx hb hK hP hD hS 6 2 rfl rfl (k := k) (by omega) (by omega) (n8 (by omega)) dX5_diff_112 (fun H locs hP hD hS => ?_)
                    have hP : va_P (dC, dI) vwCl (([(am 0, .inr (5, [.int (nI 0), .ref (am 1), .ref (am 2), .ref (am 3), .int (nI k), .ref (am 4), .ref (am 5), .ref (am 6), .ref (am 7), .ref (am 8), .ref (am 9), .ref (am 10), .int en, .int cf, .ref (am 11), .ref (am 12), .ref (am 13), .ref (am 14), .ref (am 15)])), (am 1, .inl (cI, 8, .inl sz)), (am 2, .inl (cI, 960, .inl rr)), (am 3, .inl (cS, 14641, .inl co2)), (am 4, .inl (cB, 240, .inl (upd K1 k (nI 0)))), (am 5, .inl (cB, 240, .inl (upd F1 k (nI i)))), (am 6, .inl (cB, 240, .inl (upd G1 k (nI j)))), (am 7, .inl (cI, 240, .inl V1))] : va_W) ++ ([] : va_W)) H := hP
                    have hD : va_D A (([(am 0, .inr (5, [.int (nI 0), .ref (am 1), .ref (am 2), .ref (am 3), .int (nI k), .ref (am 4), .ref (am 5), .ref (am 6), .ref (am 7), .ref (am 8), .ref (am 9), .ref (am 10), .int en, .int cf, .ref (am 11), .ref (am 12), .ref (am 13), .ref (am 14), .ref (am 15)])), (am 1, .inl (cI, 8, .inl sz)), (am 2, .inl (cI, 960, .inl rr)), (am 3, .inl (cS, 14641, .inl co2)), (am 4, .inl (cB, 240, .inl (upd K1 k (nI 0)))), (am 5, .inl (cB, 240, .inl (upd F1 k (nI i)))), (am 6, .inl (cB, 240, .inl (upd G1 k (nI j)))), (am 7, .inl (cI, 240, .inl V1))] : va_W) ++ ([] : va_W)) := hD
                    refine lv_aload_n hx hb dX5_diff_113 rfl (lv_at hl 4 rfl) ?_
                    refine va_get (D := (dC, dI)) (ci := 5) (v := .ref (am 7)) (C := RX5) (T := TX5) (N := 19) hx hb hz hinX5 hown hK hP 0 rfl rfl 8 (by decide) (hz _ zw_486) (fun _ h9 => h9) rfl dX5_diff_114 ?_
                    refine lv_aload_n hx hb dX5_diff_117 rfl (lv_at hl 4 rfl) ?_
                    refine va_get (D := (dC, dI)) (ci := 5) (v := .int (nI k)) (C := RX5) (T := TX5) (N := 19) hx hb hz hinX5 hown hK hP 0 rfl rfl 4 (by decide) (hz _ zw_482) (fun _ h9 => h9) rfl dX5_diff_118 ?_
                    refine lv_iload hx hb dX5_diff_121 (lv_at hl 0 rfl) ?_
                    refine lv_iconst (v := nI 2) hx hb dX5_diff_123 (by decide) ?_
                    refine lv_icmp_ne (tgt := 142) hx hb dX5_diff_124 (by decide) (fun ck8 => ?_) (fun ck8 => ?_)
                    · refine lv_aload_n hx hb dX5_diff_142 rfl (lv_at hl 4 rfl) ?_
                      refine va_get (D := (dC, dI)) (ci := 5) (v := .ref (am 2)) (C := RX5) (T := TX5) (N := 19) hx hb hz hinX5 hown hK hP 0 rfl rfl 2 (by decide) (hz _ zw_480) (fun _ h9 => h9) rfl dX5_diff_143 ?_
                      refine lv_bipush (v := nI 120) hx hb dX5_diff_146 (by decide) ?_
                      refine lv_iload_n hx hb dX5_diff_148 rfl (lv_at hl 5 rfl) ?_
                      refine t_imul hx hb dX5_diff_149 (show nI 120 * nI r1 = nI (120 * r1) from (pk_mul _ _)) ?_
                      refine lv_iload hx hb dX5_diff_150 (lv_at hl 2 rfl) ?_
                      refine t_iadd hx hb dX5_diff_152 (show nI (120 * r1) + nI i = nI (120 * r1 + i) from (nI_add _ _)) ?_
                      refine z_iald (v := fs r1 i) hx hb hK hP 2 0 rfl rfl (k := (120 * r1 + i)) (by omega) (by omega) (hrw r1 hr1 i hi2) dX5_diff_153 ?_
                      refine z_iast hx hb hK hP hD hS 7 0 rfl rfl (k := k) (by omega) (by omega) dX5_diff_154 (fun H locs hP hD hS => ?_)
                      have hP : va_P (dC, dI) vwCl (([(am 0, .inr (5, [.int (nI 0), .ref (am 1), .ref (am 2), .ref (am 3), .int (nI k), .ref (am 4), .ref (am 5), .ref (am 6), .ref (am 7), .ref (am 8), .ref (am 9), .ref (am 10), .int en, .int cf, .ref (am 11), .ref (am 12), .ref (am 13), .ref (am 14), .ref (am 15)])), (am 1, .inl (cI, 8, .inl sz)), (am 2, .inl (cI, 960, .inl rr)), (am 3, .inl (cS, 14641, .inl co2)), (am 4, .inl (cB, 240, .inl (upd K1 k (nI 0)))), (am 5, .inl (cB, 240, .inl (upd F1 k (nI i)))), (am 6, .inl (cB, 240, .inl (upd G1 k (nI j)))), (am 7, .inl (cI, 240, .inl (upd V1 k (fs r1 i))))] : va_W) ++ ([] : va_W)) H := hP
                      have hD : va_D A (([(am 0, .inr (5, [.int (nI 0), .ref (am 1), .ref (am 2), .ref (am 3), .int (nI k), .ref (am 4), .ref (am 5), .ref (am 6), .ref (am 7), .ref (am 8), .ref (am 9), .ref (am 10), .int en, .int cf, .ref (am 11), .ref (am 12), .ref (am 13), .ref (am 14), .ref (am 15)])), (am 1, .inl (cI, 8, .inl sz)), (am 2, .inl (cI, 960, .inl rr)), (am 3, .inl (cS, 14641, .inl co2)), (am 4, .inl (cB, 240, .inl (upd K1 k (nI 0)))), (am 5, .inl (cB, 240, .inl (upd F1 k (nI i)))), (am 6, .inl (cB, 240, .inl (upd G1 k (nI j)))), (am 7, .inl (cI, 240, .inl (upd V1 k (fs r1 i))))] : va_W) ++ ([] : va_W)) := hD
                      refine lv_aload_n hx hb dX5_diff_155 rfl (lv_at hl 4 rfl) ?_
                      refine lv_dup hx hb dX5_diff_156 rfl ?_
                      refine va_get (D := (dC, dI)) (ci := 5) (v := .int (nI k)) (C := RX5) (T := TX5) (N := 19) hx hb hz hinX5 hown hK hP 0 rfl rfl 4 (by decide) (hz _ zw_482) (fun _ h9 => h9) rfl dX5_diff_157 ?_
                      refine lv_iconst (v := nI 1) hx hb dX5_diff_160 (by decide) ?_
                      refine t_iadd hx hb dX5_diff_161 (show nI k + nI 1 = nI (k + 1) from (nI_add _ _)) ?_
                      refine va_put (D := (dC, dI)) (ci := 5) (v := .int (nI (k + 1))) (ty := .int) (C := RX5) (T := TX5) (N := 19) hx hb hz hinX5 tyX5 tyX5_ok nmX5 hown hK hP hD hS 0 rfl rfl 4 (by decide) (hz _ zw_482) (fun _ h9 => h9) rfl (by decide +kernel) rfl rfl (Nat.le_of_ble_eq_true rfl) dX5_diff_162 (fun H locs hP hD hS => ?_)
                      have hP : va_P (dC, dI) vwCl (([(am 0, .inr (5, [.int (nI 0), .ref (am 1), .ref (am 2), .ref (am 3), .int (nI (k + 1)), .ref (am 4), .ref (am 5), .ref (am 6), .ref (am 7), .ref (am 8), .ref (am 9), .ref (am 10), .int en, .int cf, .ref (am 11), .ref (am 12), .ref (am 13), .ref (am 14), .ref (am 15)])), (am 1, .inl (cI, 8, .inl sz)), (am 2, .inl (cI, 960, .inl rr)), (am 3, .inl (cS, 14641, .inl co2)), (am 4, .inl (cB, 240, .inl (upd K1 k (nI 0)))), (am 5, .inl (cB, 240, .inl (upd F1 k (nI i)))), (am 6, .inl (cB, 240, .inl (upd G1 k (nI j)))), (am 7, .inl (cI, 240, .inl (upd V1 k (fs r1 i))))] : va_W) ++ ([] : va_W)) H := hP
                      have hD : va_D A (([(am 0, .inr (5, [.int (nI 0), .ref (am 1), .ref (am 2), .ref (am 3), .int (nI (k + 1)), .ref (am 4), .ref (am 5), .ref (am 6), .ref (am 7), .ref (am 8), .ref (am 9), .ref (am 10), .int en, .int cf, .ref (am 11), .ref (am 12), .ref (am 13), .ref (am 14), .ref (am 15)])), (am 1, .inl (cI, 8, .inl sz)), (am 2, .inl (cI, 960, .inl rr)), (am 3, .inl (cS, 14641, .inl co2)), (am 4, .inl (cB, 240, .inl (upd K1 k (nI 0)))), (am 5, .inl (cB, 240, .inl (upd F1 k (nI i)))), (am 6, .inl (cB, 240, .inl (upd G1 k (nI j)))), (am 7, .inl (cI, 240, .inl (upd V1 k (fs r1 i))))] : va_W) ++ ([] : va_W)) := hD
                      refine lv_iload hx hb dX5_diff_165 (lv_at hl 2 rfl) ?_
                      refine lv_iload hx hb dX5_diff_167 (lv_at hl 0 rfl) ?_
                      refine lv_iconst (v := nI 2) hx hb dX5_diff_169 (by decide) ?_
                      refine lv_icmp_ge (tgt := 177) hx hb dX5_diff_170 (by decide) (fun ck9 => ?_) (fun ck9 => ?_)
                      · exact absurd ck9 (by decide)
                      · refine lv_iconst (v := nI 1) hx hb dX5_diff_173 (by decide) ?_
                        refine lv_goto (tgt := 178) hx hb dX5_diff_174 (by decide) ?_
                        refine t_iadd hx hb dX5_diff_178 (show nI i + nI 1 = nI (i + 1) from (nI_add _ _)) ?_
                        refine lv_istore (lv' := [(4, .int (nI (i + 1))), (6, .int (nI 0)), (5, .int (nI j)), (3, .int (nI (dc (fs r1) (fs r2) (ns r1) (ns r2) 0 0))), (0, .ref (am 0)), (1, .int (nI r1)), (2, .int (nI r2))]) hx hb dX5_diff_179 hl (by decide) rfl (fun ls hl => ?_)
                        refine lv_iload hx hb dX5_diff_181 (lv_at hl 2 rfl) ?_
                        refine lv_iload hx hb dX5_diff_183 (lv_at hl 1 rfl) ?_
                        refine lv_iconst (v := nI 1) hx hb dX5_diff_185 (by decide) ?_
                        refine lv_icmp_eq (tgt := 193) hx hb dX5_diff_186 (by decide) (fun ck10 => ?_) (fun ck10 => ?_)
                        · exact absurd ck10 (by decide)
                        · refine lv_iconst (v := nI 1) hx hb dX5_diff_189 (by decide) ?_
                          refine lv_goto (tgt := 194) hx hb dX5_diff_190 (by decide) ?_
                          refine t_iadd hx hb dX5_diff_194 (show nI j + nI 1 = nI (j + 1) from (nI_add _ _)) ?_
                          refine lv_istore (lv' := [(5, .int (nI (j + 1))), (4, .int (nI (i + 1))), (6, .int (nI 0)), (3, .int (nI (dc (fs r1) (fs r2) (ns r1) (ns r2) 0 0))), (0, .ref (am 0)), (1, .int (nI r1)), (2, .int (nI r2))]) hx hb dX5_diff_195 hl (by decide) rfl (fun ls hl => ?_)
                          refine lv_aload_n hx hb dX5_diff_197 rfl (lv_at hl 4 rfl) ?_
                          refine lv_iload_n hx hb dX5_diff_198 rfl (lv_at hl 5 rfl) ?_
                          refine lv_iload hx hb dX5_diff_199 (lv_at hl 1 rfl) ?_
                          refine lv_iload_n hx hb dX5_diff_201 rfl (lv_at hl 6 rfl) ?_
                          refine lv_iload hx hb dX5_diff_202 (lv_at hl 0 rfl) ?_
                          refine z_ciQ (wr := ([(am 4, .inl (cB, 240, .inl (upd K1 k (nI 0)))), (am 5, .inl (cB, 240, .inl (upd F1 k (nI i)))), (am 6, .inl (cB, 240, .inl (upd G1 k (nI j)))), (am 7, .inl (cI, 240, .inl (upd V1 k (fs r1 i))))] : va_W)) (cx := ([(am 0, .inr (5, [.int (nI 0), .ref (am 1), .ref (am 2), .ref (am 3), .int (nI (k + 1)), .ref (am 4), .ref (am 5), .ref (am 6), .ref (am 7), .ref (am 8), .ref (am 9), .ref (am 10), .int en, .int cf, .ref (am 11), .ref (am 12), .ref (am 13), .ref (am 14), .ref (am 15)])), (am 1, .inl (cI, 8, .inl sz)), (am 2, .inl (cI, 960, .inl rr)), (am 3, .inl (cS, 14641, .inl co2))] : va_W)) hP hD hS hA [0, 1, 2, 3] [4, 5, 6, 7] rfl rfl (by decide) (by decide) (va_runV (As := [.int (nI r1), .int (nI (i + 1)), .int (nI r2), .int (nI (j + 1))]) (rest := []) ⟨hx, hb, hml, hown, hz⟩ (c_M_due l dC dI cI cS cB cZ am (nI 0) (nI (k + 1)) en cf sz rr co2 ns fs hns hsz hrw r1 (i + 1) r2 (j + 1) hr1 hr2 (by omega) (by omega) hco H.size) (cwV 4 hz (zgV zw_577 zw_579 zw_15 zw_27 zw_580) rfl rfl rfl (by decide +kernel) ⟨Nat.le_of_ble_eq_true rfl, Nat.le_of_ble_eq_true rfl⟩) ⟨zP_blind, z_recv hK hP (ci := 5) rfl rfl (q0 := 0) rfl, z_preQ hK hN hP hD [0, 1, 2, 3] rfl (by decide)⟩ rfl rfl hl.1 rfl (lv_room (Nat.le_of_ble_eq_true rfl)) dX5_diff_204 ⟨Nat.le_of_ble_eq_true rfl, Nat.le_of_ble_eq_true rfl⟩) (fun v7 w1 H locs hw hP hD hS => ?_)
                          obtain ⟨h7, hw⟩ := hw
                          subst hw
                          have hP : va_P (dC, dI) vwCl (([(am 4, .inl (cB, 240, .inl (upd K1 k (nI 0)))), (am 5, .inl (cB, 240, .inl (upd F1 k (nI i)))), (am 6, .inl (cB, 240, .inl (upd G1 k (nI j)))), (am 7, .inl (cI, 240, .inl (upd V1 k (fs r1 i)))), (am 0, .inr (5, [.int (nI 0), .ref (am 1), .ref (am 2), .ref (am 3), .int (nI (k + 1)), .ref (am 4), .ref (am 5), .ref (am 6), .ref (am 7), .ref (am 8), .ref (am 9), .ref (am 10), .int en, .int cf, .ref (am 11), .ref (am 12), .ref (am 13), .ref (am 14), .ref (am 15)])), (am 1, .inl (cI, 8, .inl sz)), (am 2, .inl (cI, 960, .inl rr)), (am 3, .inl (cS, 14641, .inl co2))] : va_W) ++ ([] : va_W)) H := hP
                          have hD : va_D A (([(am 4, .inl (cB, 240, .inl (upd K1 k (nI 0)))), (am 5, .inl (cB, 240, .inl (upd F1 k (nI i)))), (am 6, .inl (cB, 240, .inl (upd G1 k (nI j)))), (am 7, .inl (cI, 240, .inl (upd V1 k (fs r1 i)))), (am 0, .inr (5, [.int (nI 0), .ref (am 1), .ref (am 2), .ref (am 3), .int (nI (k + 1)), .ref (am 4), .ref (am 5), .ref (am 6), .ref (am 7), .ref (am 8), .ref (am 9), .ref (am 10), .int en, .int cf, .ref (am 11), .ref (am 12), .ref (am 13), .ref (am 14), .ref (am 15)])), (am 1, .inl (cI, 8, .inl sz)), (am 2, .inl (cI, 960, .inl rr)), (am 3, .inl (cS, 14641, .inl co2))] : va_W) ++ ([] : va_W)) := hD
                          have hP := z_permP (cx := ([(am 0, .inr (5, [.int (nI 0), .ref (am 1), .ref (am 2), .ref (am 3), .int (nI (k + 1)), .ref (am 4), .ref (am 5), .ref (am 6), .ref (am 7), .ref (am 8), .ref (am 9), .ref (am 10), .int en, .int cf, .ref (am 11), .ref (am 12), .ref (am 13), .ref (am 14), .ref (am 15)])), (am 1, .inl (cI, 8, .inl sz)), (am 2, .inl (cI, 960, .inl rr)), (am 3, .inl (cS, 14641, .inl co2)), (am 4, .inl (cB, 240, .inl (upd K1 k (nI 0)))), (am 5, .inl (cB, 240, .inl (upd F1 k (nI i)))), (am 6, .inl (cB, 240, .inl (upd G1 k (nI j)))), (am 7, .inl (cI, 240, .inl (upd V1 k (fs r1 i))))] : va_W)) hP [4, 5, 6, 7, 0, 1, 2, 3] rfl
                          have hD := z_permD (cx := ([(am 0, .inr (5, [.int (nI 0), .ref (am 1), .ref (am 2), .ref (am 3), .int (nI (k + 1)), .ref (am 4), .ref (am 5), .ref (am 6), .ref (am 7), .ref (am 8), .ref (am 9), .ref (am 10), .int en, .int cf, .ref (am 11), .ref (am 12), .ref (am 13), .ref (am 14), .ref (am 15)])), (am 1, .inl (cI, 8, .inl sz)), (am 2, .inl (cI, 960, .inl rr)), (am 3, .inl (cS, 14641, .inl co2)), (am 4, .inl (cB, 240, .inl (upd K1 k (nI 0)))), (am 5, .inl (cB, 240, .inl (upd F1 k (nI i)))), (am 6, .inl (cB, 240, .inl (upd G1 k (nI j)))), (am 7, .inl (cI, 240, .inl (upd V1 k (fs r1 i))))] : va_W)) hD [4, 5, 6, 7, 0, 1, 2, 3] rfl (by decide)
                          refine lv_istore (lv' := [(6, .int v7), (5, .int (nI (j + 1))), (4, .int (nI (i + 1))), (3, .int (nI (dc (fs r1) (fs r2) (ns r1) (ns r2) 0 0))), (0, .ref (am 0)), (1, .int (nI r1)), (2, .int (nI r2))]) hx hb dX5_diff_207 hl (by decide) rfl (fun ls hl => ?_)
                          refine lv_goto (tgt := 72) hx hb dX5_diff_209 (by decide) ?_
                          have hkd2 : kd (fs r1) (fs r2) (ns r1) (ns r2) ((ps (fs r1) (fs r2) (ns r1) (ns r2) k).1) ((ps (fs r1) (fs r2) (ns r1) (ns r2) k).2) = 0 := by rw [hps]; exact hkd
                          exact ih (k + 1) (i + 1) (j + 1) _ _ _ _ _ _ _ ls (by omega) (by rw [ps_s, hkd2, hps]; rfl) (by omega) (by omega) (by omega) (lt_s hnd (by rw [hps]; show i < ns r1 ∨ j < ns r2; omega)) (ag_s hag hkd2 hps (by rw [vl_0 hkd2, hps])) h7 hP hD hS (lv_sub hl [0, 1, 2, 3, 4, 5, 6] rfl)
                    · exact absurd ck8 (by decide)
                · rw [hkd] at hv6
                  subst hv6
                  refine lv_iload hx hb dX5_diff_72 (lv_at hl 0 rfl) ?_
                  refine lv_if_lt (tgt := 212) hx hb dX5_diff_74 (by decide) (fun ck11 => ?_) (fun ck11 => ?_)
                  · exact absurd ck11 (by decide)
                  · refine lv_aload_n hx hb dX5_diff_77 rfl (lv_at hl 4 rfl) ?_
                    refine va_get (D := (dC, dI)) (ci := 5) (v := .ref (am 4)) (C := RX5) (T := TX5) (N := 19) hx hb hz hinX5 hown hK hP 0 rfl rfl 5 (by decide) (hz _ zw_483) (fun _ h9 => h9) rfl dX5_diff_78 ?_
                    refine lv_aload_n hx hb dX5_diff_81 rfl (lv_at hl 4 rfl) ?_
                    refine va_get (D := (dC, dI)) (ci := 5) (v := .int (nI k)) (C := RX5) (T := TX5) (N := 19) hx hb hz hinX5 hown hK hP 0 rfl rfl 4 (by decide) (hz _ zw_482) (fun _ h9 => h9) rfl dX5_diff_82 ?_
                    refine lv_iload hx hb dX5_diff_85 (lv_at hl 0 rfl) ?_
                    refine t_i2b hx hb dX5_diff_87 (b8 _ (by omega)) ?_
                    refine z_bast hx hb hK hP hD hS 4 2 rfl rfl (k := k) (by omega) (by omega) (n8 (by omega)) dX5_diff_88 (fun H locs hP hD hS => ?_)
                    have hP : va_P (dC, dI) vwCl (([(am 0, .inr (5, [.int (nI 0), .ref (am 1), .ref (am 2), .ref (am 3), .int (nI k), .ref (am 4), .ref (am 5), .ref (am 6), .ref (am 7), .ref (am 8), .ref (am 9), .ref (am 10), .int en, .int cf, .ref (am 11), .ref (am 12), .ref (am 13), .ref (am 14), .ref (am 15)])), (am 1, .inl (cI, 8, .inl sz)), (am 2, .inl (cI, 960, .inl rr)), (am 3, .inl (cS, 14641, .inl co2)), (am 4, .inl (cB, 240, .inl (upd K1 k (nI 1)))), (am 5, .inl (cB, 240, .inl F1)), (am 6, .inl (cB, 240, .inl G1)), (am 7, .inl (cI, 240, .inl V1))] : va_W) ++ ([] : va_W)) H := hP
                    have hD : va_D A (([(am 0, .inr (5, [.int (nI 0), .ref (am 1), .ref (am 2), .ref (am 3), .int (nI k), .ref (am 4), .ref (am 5), .ref (am 6), .ref (am 7), .ref (am 8), .ref (am 9), .ref (am 10), .int en, .int cf, .ref (am 11), .ref (am 12), .ref (am 13), .ref (am 14), .ref (am 15)])), (am 1, .inl (cI, 8, .inl sz)), (am 2, .inl (cI, 960, .inl rr)), (am 3, .inl (cS, 14641, .inl co2)), (am 4, .inl (cB, 240, .inl (upd K1 k (nI 1)))), (am 5, .inl (cB, 240, .inl F1)), (am 6, .inl (cB, 240, .inl G1)), (am 7, .inl (cI, 240, .inl V1))] : va_W) ++ ([] : va_W)) := hD
                    refine lv_aload_n hx hb dX5_diff_89 rfl (lv_at hl 4 rfl) ?_
                    refine va_get (D := (dC, dI)) (ci := 5) (v := .ref (am 5)) (C := RX5) (T := TX5) (N := 19) hx hb hz hinX5 hown hK hP 0 rfl rfl 6 (by decide) (hz _ zw_484) (fun _ h9 => h9) rfl dX5_diff_90 ?_
                    refine lv_aload_n hx hb dX5_diff_93 rfl (lv_at hl 4 rfl) ?_
                    refine va_get (D := (dC, dI)) (ci := 5) (v := .int (nI k)) (C := RX5) (T := TX5) (N := 19) hx hb hz hinX5 hown hK hP 0 rfl rfl 4 (by decide) (hz _ zw_482) (fun _ h9 => h9) rfl dX5_diff_94 ?_
                    refine lv_iload hx hb dX5_diff_97 (lv_at hl 2 rfl) ?_
                    refine t_i2b hx hb dX5_diff_99 (b8 _ (by omega)) ?_
                    refine z_bast hx hb hK hP hD hS 5 2 rfl rfl (k := k) (by omega) (by omega) (n8 (by omega)) dX5_diff_100 (fun H locs hP hD hS => ?_)
                    have hP : va_P (dC, dI) vwCl (([(am 0, .inr (5, [.int (nI 0), .ref (am 1), .ref (am 2), .ref (am 3), .int (nI k), .ref (am 4), .ref (am 5), .ref (am 6), .ref (am 7), .ref (am 8), .ref (am 9), .ref (am 10), .int en, .int cf, .ref (am 11), .ref (am 12), .ref (am 13), .ref (am 14), .ref (am 15)])), (am 1, .inl (cI, 8, .inl sz)), (am 2, .inl (cI, 960, .inl rr)), (am 3, .inl (cS, 14641, .inl co2)), (am 4, .inl (cB, 240, .inl (upd K1 k (nI 1)))), (am 5, .inl (cB, 240, .inl (upd F1 k (nI i)))), (am 6, .inl (cB, 240, .inl G1)), (am 7, .inl (cI, 240, .inl V1))] : va_W) ++ ([] : va_W)) H := hP
                    have hD : va_D A (([(am 0, .inr (5, [.int (nI 0), .ref (am 1), .ref (am 2), .ref (am 3), .int (nI k), .ref (am 4), .ref (am 5), .ref (am 6), .ref (am 7), .ref (am 8), .ref (am 9), .ref (am 10), .int en, .int cf, .ref (am 11), .ref (am 12), .ref (am 13), .ref (am 14), .ref (am 15)])), (am 1, .inl (cI, 8, .inl sz)), (am 2, .inl (cI, 960, .inl rr)), (am 3, .inl (cS, 14641, .inl co2)), (am 4, .inl (cB, 240, .inl (upd K1 k (nI 1)))), (am 5, .inl (cB, 240, .inl (upd F1 k (nI i)))), (am 6, .inl (cB, 240, .inl G1)), (am 7, .inl (cI, 240, .inl V1))] : va_W) ++ ([] : va_W)) := hD
                    refine lv_aload_n hx hb dX5_diff_101 rfl (lv_at hl 4 rfl) ?_
                    refine va_get (D := (dC, dI)) (ci := 5) (v := .ref (am 6)) (C := RX5) (T := TX5) (N := 19) hx hb hz hinX5 hown hK hP 0 rfl rfl 7 (by decide) (hz _ zw_485) (fun _ h9 => h9) rfl dX5_diff_102 ?_
                    refine lv_aload_n hx hb dX5_diff_105 rfl (lv_at hl 4 rfl) ?_
                    refine va_get (D := (dC, dI)) (ci := 5) (v := .int (nI k)) (C := RX5) (T := TX5) (N := 19) hx hb hz hinX5 hown hK hP 0 rfl rfl 4 (by decide) (hz _ zw_482) (fun _ h9 => h9) rfl dX5_diff_106 ?_
                    refine lv_iload hx hb dX5_diff_109 (lv_at hl 1 rfl) ?_
                    refine t_i2b hx hb dX5_diff_111 (b8 _ (by omega)) ?_
                    refine z_bast hx hb hK hP hD hS 6 2 rfl rfl (k := k) (by omega) (by omega) (n8 (by omega)) dX5_diff_112 (fun H locs hP hD hS => ?_)
                    have hP : va_P (dC, dI) vwCl (([(am 0, .inr (5, [.int (nI 0), .ref (am 1), .ref (am 2), .ref (am 3), .int (nI k), .ref (am 4), .ref (am 5), .ref (am 6), .ref (am 7), .ref (am 8), .ref (am 9), .ref (am 10), .int en, .int cf, .ref (am 11), .ref (am 12), .ref (am 13), .ref (am 14), .ref (am 15)])), (am 1, .inl (cI, 8, .inl sz)), (am 2, .inl (cI, 960, .inl rr)), (am 3, .inl (cS, 14641, .inl co2)), (am 4, .inl (cB, 240, .inl (upd K1 k (nI 1)))), (am 5, .inl (cB, 240, .inl (upd F1 k (nI i)))), (am 6, .inl (cB, 240, .inl (upd G1 k (nI j)))), (am 7, .inl (cI, 240, .inl V1))] : va_W) ++ ([] : va_W)) H := hP
                    have hD : va_D A (([(am 0, .inr (5, [.int (nI 0), .ref (am 1), .ref (am 2), .ref (am 3), .int (nI k), .ref (am 4), .ref (am 5), .ref (am 6), .ref (am 7), .ref (am 8), .ref (am 9), .ref (am 10), .int en, .int cf, .ref (am 11), .ref (am 12), .ref (am 13), .ref (am 14), .ref (am 15)])), (am 1, .inl (cI, 8, .inl sz)), (am 2, .inl (cI, 960, .inl rr)), (am 3, .inl (cS, 14641, .inl co2)), (am 4, .inl (cB, 240, .inl (upd K1 k (nI 1)))), (am 5, .inl (cB, 240, .inl (upd F1 k (nI i)))), (am 6, .inl (cB, 240, .inl (upd G1 k (nI j)))), (am 7, .inl (cI, 240, .inl V1))] : va_W) ++ ([] : va_W)) := hD
                    refine lv_aload_n hx hb dX5_diff_113 rfl (lv_at hl 4 rfl) ?_
                    refine va_get (D := (dC, dI)) (ci := 5) (v := .ref (am 7)) (C := RX5) (T := TX5) (N := 19) hx hb hz hinX5 hown hK hP 0 rfl rfl 8 (by decide) (hz _ zw_486) (fun _ h9 => h9) rfl dX5_diff_114 ?_
                    refine lv_aload_n hx hb dX5_diff_117 rfl (lv_at hl 4 rfl) ?_
                    refine va_get (D := (dC, dI)) (ci := 5) (v := .int (nI k)) (C := RX5) (T := TX5) (N := 19) hx hb hz hinX5 hown hK hP 0 rfl rfl 4 (by decide) (hz _ zw_482) (fun _ h9 => h9) rfl dX5_diff_118 ?_
                    refine lv_iload hx hb dX5_diff_121 (lv_at hl 0 rfl) ?_
                    refine lv_iconst (v := nI 2) hx hb dX5_diff_123 (by decide) ?_
                    refine lv_icmp_ne (tgt := 142) hx hb dX5_diff_124 (by decide) (fun ck12 => ?_) (fun ck12 => ?_)
                    · refine lv_aload_n hx hb dX5_diff_142 rfl (lv_at hl 4 rfl) ?_
                      refine va_get (D := (dC, dI)) (ci := 5) (v := .ref (am 2)) (C := RX5) (T := TX5) (N := 19) hx hb hz hinX5 hown hK hP 0 rfl rfl 2 (by decide) (hz _ zw_480) (fun _ h9 => h9) rfl dX5_diff_143 ?_
                      refine lv_bipush (v := nI 120) hx hb dX5_diff_146 (by decide) ?_
                      refine lv_iload_n hx hb dX5_diff_148 rfl (lv_at hl 5 rfl) ?_
                      refine t_imul hx hb dX5_diff_149 (show nI 120 * nI r1 = nI (120 * r1) from (pk_mul _ _)) ?_
                      refine lv_iload hx hb dX5_diff_150 (lv_at hl 2 rfl) ?_
                      refine t_iadd hx hb dX5_diff_152 (show nI (120 * r1) + nI i = nI (120 * r1 + i) from (nI_add _ _)) ?_
                      refine z_iald (v := fs r1 i) hx hb hK hP 2 0 rfl rfl (k := (120 * r1 + i)) (by omega) (by omega) (hrw r1 hr1 i hi2) dX5_diff_153 ?_
                      refine z_iast hx hb hK hP hD hS 7 0 rfl rfl (k := k) (by omega) (by omega) dX5_diff_154 (fun H locs hP hD hS => ?_)
                      have hP : va_P (dC, dI) vwCl (([(am 0, .inr (5, [.int (nI 0), .ref (am 1), .ref (am 2), .ref (am 3), .int (nI k), .ref (am 4), .ref (am 5), .ref (am 6), .ref (am 7), .ref (am 8), .ref (am 9), .ref (am 10), .int en, .int cf, .ref (am 11), .ref (am 12), .ref (am 13), .ref (am 14), .ref (am 15)])), (am 1, .inl (cI, 8, .inl sz)), (am 2, .inl (cI, 960, .inl rr)), (am 3, .inl (cS, 14641, .inl co2)), (am 4, .inl (cB, 240, .inl (upd K1 k (nI 1)))), (am 5, .inl (cB, 240, .inl (upd F1 k (nI i)))), (am 6, .inl (cB, 240, .inl (upd G1 k (nI j)))), (am 7, .inl (cI, 240, .inl (upd V1 k (fs r1 i))))] : va_W) ++ ([] : va_W)) H := hP
                      have hD : va_D A (([(am 0, .inr (5, [.int (nI 0), .ref (am 1), .ref (am 2), .ref (am 3), .int (nI k), .ref (am 4), .ref (am 5), .ref (am 6), .ref (am 7), .ref (am 8), .ref (am 9), .ref (am 10), .int en, .int cf, .ref (am 11), .ref (am 12), .ref (am 13), .ref (am 14), .ref (am 15)])), (am 1, .inl (cI, 8, .inl sz)), (am 2, .inl (cI, 960, .inl rr)), (am 3, .inl (cS, 14641, .inl co2)), (am 4, .inl (cB, 240, .inl (upd K1 k (nI 1)))), (am 5, .inl (cB, 240, .inl (upd F1 k (nI i)))), (am 6, .inl (cB, 240, .inl (upd G1 k (nI j)))), (am 7, .inl (cI, 240, .inl (upd V1 k (fs r1 i))))] : va_W) ++ ([] : va_W)) := hD
                      refine lv_aload_n hx hb dX5_diff_155 rfl (lv_at hl 4 rfl) ?_
                      refine lv_dup hx hb dX5_diff_156 rfl ?_
                      refine va_get (D := (dC, dI)) (ci := 5) (v := .int (nI k)) (C := RX5) (T := TX5) (N := 19) hx hb hz hinX5 hown hK hP 0 rfl rfl 4 (by decide) (hz _ zw_482) (fun _ h9 => h9) rfl dX5_diff_157 ?_
                      refine lv_iconst (v := nI 1) hx hb dX5_diff_160 (by decide) ?_
                      refine t_iadd hx hb dX5_diff_161 (show nI k + nI 1 = nI (k + 1) from (nI_add _ _)) ?_
                      refine va_put (D := (dC, dI)) (ci := 5) (v := .int (nI (k + 1))) (ty := .int) (C := RX5) (T := TX5) (N := 19) hx hb hz hinX5 tyX5 tyX5_ok nmX5 hown hK hP hD hS 0 rfl rfl 4 (by decide) (hz _ zw_482) (fun _ h9 => h9) rfl (by decide +kernel) rfl rfl (Nat.le_of_ble_eq_true rfl) dX5_diff_162 (fun H locs hP hD hS => ?_)
                      have hP : va_P (dC, dI) vwCl (([(am 0, .inr (5, [.int (nI 0), .ref (am 1), .ref (am 2), .ref (am 3), .int (nI (k + 1)), .ref (am 4), .ref (am 5), .ref (am 6), .ref (am 7), .ref (am 8), .ref (am 9), .ref (am 10), .int en, .int cf, .ref (am 11), .ref (am 12), .ref (am 13), .ref (am 14), .ref (am 15)])), (am 1, .inl (cI, 8, .inl sz)), (am 2, .inl (cI, 960, .inl rr)), (am 3, .inl (cS, 14641, .inl co2)), (am 4, .inl (cB, 240, .inl (upd K1 k (nI 1)))), (am 5, .inl (cB, 240, .inl (upd F1 k (nI i)))), (am 6, .inl (cB, 240, .inl (upd G1 k (nI j)))), (am 7, .inl (cI, 240, .inl (upd V1 k (fs r1 i))))] : va_W) ++ ([] : va_W)) H := hP
                      have hD : va_D A (([(am 0, .inr (5, [.int (nI 0), .ref (am 1), .ref (am 2), .ref (am 3), .int (nI (k + 1)), .ref (am 4), .ref (am 5), .ref (am 6), .ref (am 7), .ref (am 8), .ref (am 9), .ref (am 10), .int en, .int cf, .ref (am 11), .ref (am 12), .ref (am 13), .ref (am 14), .ref (am 15)])), (am 1, .inl (cI, 8, .inl sz)), (am 2, .inl (cI, 960, .inl rr)), (am 3, .inl (cS, 14641, .inl co2)), (am 4, .inl (cB, 240, .inl (upd K1 k (nI 1)))), (am 5, .inl (cB, 240, .inl (upd F1 k (nI i)))), (am 6, .inl (cB, 240, .inl (upd G1 k (nI j)))), (am 7, .inl (cI, 240, .inl (upd V1 k (fs r1 i))))] : va_W) ++ ([] : va_W)) := hD
                      refine lv_iload hx hb dX5_diff_165 (lv_at hl 2 rfl) ?_
                      refine lv_iload hx hb dX5_diff_167 (lv_at hl 0 rfl) ?_
                      refine lv_iconst (v := nI 2) hx hb dX5_diff_169 (by decide) ?_
                      refine lv_icmp_ge (tgt := 177) hx hb dX5_diff_170 (by decide) (fun ck13 => ?_) (fun ck13 => ?_)
                      · exact absurd ck13 (by decide)
                      · refine lv_iconst (v := nI 1) hx hb dX5_diff_173 (by decide) ?_
                        refine lv_goto (tgt := 178) hx hb dX5_diff_174 (by decide) ?_
                        refine t_iadd hx hb dX5_diff_178 (show nI i + nI 1 = nI (i + 1) from (nI_add _ _)) ?_
                        refine lv_istore (lv' := [(4, .int (nI (i + 1))), (6, .int (nI 1)), (5, .int (nI j)), (3, .int (nI (dc (fs r1) (fs r2) (ns r1) (ns r2) 0 0))), (0, .ref (am 0)), (1, .int (nI r1)), (2, .int (nI r2))]) hx hb dX5_diff_179 hl (by decide) rfl (fun ls hl => ?_)
                        refine lv_iload hx hb dX5_diff_181 (lv_at hl 2 rfl) ?_
                        refine lv_iload hx hb dX5_diff_183 (lv_at hl 1 rfl) ?_
                        refine lv_iconst (v := nI 1) hx hb dX5_diff_185 (by decide) ?_
                        refine lv_icmp_eq (tgt := 193) hx hb dX5_diff_186 (by decide) (fun ck14 => ?_) (fun ck14 => ?_)
                        · refine lv_iconst (v := nI 0) hx hb dX5_diff_193 (by decide) ?_
                          refine t_iadd hx hb dX5_diff_194 (show nI j + nI 0 = nI j from (nI_add _ _)) ?_
                          refine lv_istore (lv' := [(5, .int (nI j)), (4, .int (nI (i + 1))), (6, .int (nI 1)), (3, .int (nI (dc (fs r1) (fs r2) (ns r1) (ns r2) 0 0))), (0, .ref (am 0)), (1, .int (nI r1)), (2, .int (nI r2))]) hx hb dX5_diff_195 hl (by decide) rfl (fun ls hl => ?_)
                          refine lv_aload_n hx hb dX5_diff_197 rfl (lv_at hl 4 rfl) ?_
                          refine lv_iload_n hx hb dX5_diff_198 rfl (lv_at hl 5 rfl) ?_
                          refine lv_iload hx hb dX5_diff_199 (lv_at hl 1 rfl) ?_
                          refine lv_iload_n hx hb dX5_diff_201 rfl (lv_at hl 6 rfl) ?_
                          refine lv_iload hx hb dX5_diff_202 (lv_at hl 0 rfl) ?_
                          refine z_ciQ (wr := ([(am 4, .inl (cB, 240, .inl (upd K1 k (nI 1)))), (am 5, .inl (cB, 240, .inl (upd F1 k (nI i)))), (am 6, .inl (cB, 240, .inl (upd G1 k (nI j)))), (am 7, .inl (cI, 240, .inl (upd V1 k (fs r1 i))))] : va_W)) (cx := ([(am 0, .inr (5, [.int (nI 0), .ref (am 1), .ref (am 2), .ref (am 3), .int (nI (k + 1)), .ref (am 4), .ref (am 5), .ref (am 6), .ref (am 7), .ref (am 8), .ref (am 9), .ref (am 10), .int en, .int cf, .ref (am 11), .ref (am 12), .ref (am 13), .ref (am 14), .ref (am 15)])), (am 1, .inl (cI, 8, .inl sz)), (am 2, .inl (cI, 960, .inl rr)), (am 3, .inl (cS, 14641, .inl co2))] : va_W)) hP hD hS hA [0, 1, 2, 3] [4, 5, 6, 7] rfl rfl (by decide) (by decide) (va_runV (As := [.int (nI r1), .int (nI (i + 1)), .int (nI r2), .int (nI j)]) (rest := []) ⟨hx, hb, hml, hown, hz⟩ (c_M_due l dC dI cI cS cB cZ am (nI 0) (nI (k + 1)) en cf sz rr co2 ns fs hns hsz hrw r1 (i + 1) r2 j hr1 hr2 (by omega) (by omega) hco H.size) (cwV 4 hz (zgV zw_577 zw_579 zw_15 zw_27 zw_580) rfl rfl rfl (by decide +kernel) ⟨Nat.le_of_ble_eq_true rfl, Nat.le_of_ble_eq_true rfl⟩) ⟨zP_blind, z_recv hK hP (ci := 5) rfl rfl (q0 := 0) rfl, z_preQ hK hN hP hD [0, 1, 2, 3] rfl (by decide)⟩ rfl rfl hl.1 rfl (lv_room (Nat.le_of_ble_eq_true rfl)) dX5_diff_204 ⟨Nat.le_of_ble_eq_true rfl, Nat.le_of_ble_eq_true rfl⟩) (fun v7 w1 H locs hw hP hD hS => ?_)
                          obtain ⟨h7, hw⟩ := hw
                          subst hw
                          have hP : va_P (dC, dI) vwCl (([(am 4, .inl (cB, 240, .inl (upd K1 k (nI 1)))), (am 5, .inl (cB, 240, .inl (upd F1 k (nI i)))), (am 6, .inl (cB, 240, .inl (upd G1 k (nI j)))), (am 7, .inl (cI, 240, .inl (upd V1 k (fs r1 i)))), (am 0, .inr (5, [.int (nI 0), .ref (am 1), .ref (am 2), .ref (am 3), .int (nI (k + 1)), .ref (am 4), .ref (am 5), .ref (am 6), .ref (am 7), .ref (am 8), .ref (am 9), .ref (am 10), .int en, .int cf, .ref (am 11), .ref (am 12), .ref (am 13), .ref (am 14), .ref (am 15)])), (am 1, .inl (cI, 8, .inl sz)), (am 2, .inl (cI, 960, .inl rr)), (am 3, .inl (cS, 14641, .inl co2))] : va_W) ++ ([] : va_W)) H := hP
                          have hD : va_D A (([(am 4, .inl (cB, 240, .inl (upd K1 k (nI 1)))), (am 5, .inl (cB, 240, .inl (upd F1 k (nI i)))), (am 6, .inl (cB, 240, .inl (upd G1 k (nI j)))), (am 7, .inl (cI, 240, .inl (upd V1 k (fs r1 i)))), (am 0, .inr (5, [.int (nI 0), .ref (am 1), .ref (am 2), .ref (am 3), .int (nI (k + 1)), .ref (am 4), .ref (am 5), .ref (am 6), .ref (am 7), .ref (am 8), .ref (am 9), .ref (am 10), .int en, .int cf, .ref (am 11), .ref (am 12), .ref (am 13), .ref (am 14), .ref (am 15)])), (am 1, .inl (cI, 8, .inl sz)), (am 2, .inl (cI, 960, .inl rr)), (am 3, .inl (cS, 14641, .inl co2))] : va_W) ++ ([] : va_W)) := hD
                          have hP := z_permP (cx := ([(am 0, .inr (5, [.int (nI 0), .ref (am 1), .ref (am 2), .ref (am 3), .int (nI (k + 1)), .ref (am 4), .ref (am 5), .ref (am 6), .ref (am 7), .ref (am 8), .ref (am 9), .ref (am 10), .int en, .int cf, .ref (am 11), .ref (am 12), .ref (am 13), .ref (am 14), .ref (am 15)])), (am 1, .inl (cI, 8, .inl sz)), (am 2, .inl (cI, 960, .inl rr)), (am 3, .inl (cS, 14641, .inl co2)), (am 4, .inl (cB, 240, .inl (upd K1 k (nI 1)))), (am 5, .inl (cB, 240, .inl (upd F1 k (nI i)))), (am 6, .inl (cB, 240, .inl (upd G1 k (nI j)))), (am 7, .inl (cI, 240, .inl (upd V1 k (fs r1 i))))] : va_W)) hP [4, 5, 6, 7, 0, 1, 2, 3] rfl
                          have hD := z_permD (cx := ([(am 0, .inr (5, [.int (nI 0), .ref (am 1), .ref (am 2), .ref (am 3), .int (nI (k + 1)), .ref (am 4), .ref (am 5), .ref (am 6), .ref (am 7), .ref (am 8), .ref (am 9), .ref (am 10), .int en, .int cf, .ref (am 11), .ref (am 12), .ref (am 13), .ref (am 14), .ref (am 15)])), (am 1, .inl (cI, 8, .inl sz)), (am 2, .inl (cI, 960, .inl rr)), (am 3, .inl (cS, 14641, .inl co2)), (am 4, .inl (cB, 240, .inl (upd K1 k (nI 1)))), (am 5, .inl (cB, 240, .inl (upd F1 k (nI i)))), (am 6, .inl (cB, 240, .inl (upd G1 k (nI j)))), (am 7, .inl (cI, 240, .inl (upd V1 k (fs r1 i))))] : va_W)) hD [4, 5, 6, 7, 0, 1, 2, 3] rfl (by decide)
                          refine lv_istore (lv' := [(6, .int v7), (5, .int (nI j)), (4, .int (nI (i + 1))), (3, .int (nI (dc (fs r1) (fs r2) (ns r1) (ns r2) 0 0))), (0, .ref (am 0)), (1, .int (nI r1)), (2, .int (nI r2))]) hx hb dX5_diff_207 hl (by decide) rfl (fun ls hl => ?_)
                          refine lv_goto (tgt := 72) hx hb dX5_diff_209 (by decide) ?_
                          have hkd2 : kd (fs r1) (fs r2) (ns r1) (ns r2) ((ps (fs r1) (fs r2) (ns r1) (ns r2) k).1) ((ps (fs r1) (fs r2) (ns r1) (ns r2) k).2) = 1 := by rw [hps]; exact hkd
                          exact ih (k + 1) (i + 1) j _ _ _ _ _ _ _ ls (by omega) (by rw [ps_s, hkd2, hps]; rfl) (by omega) (by omega) (by omega) (lt_s hnd (by rw [hps]; show i < ns r1 ∨ j < ns r2; omega)) (ag_s hag hkd2 hps (by rw [vl_0 hkd2, hps])) h7 hP hD hS (lv_sub hl [0, 1, 2, 3, 4, 5, 6] rfl)
                        · exact absurd ck14 (by decide)
                    · exact absurd ck12 (by decide)
                · rw [hkd] at hv6
                  subst hv6
                  refine lv_iload hx hb dX5_diff_72 (lv_at hl 0 rfl) ?_
                  refine lv_if_lt (tgt := 212) hx hb dX5_diff_74 (by decide) (fun ck15 => ?_) (fun ck15 => ?_)
                  · exact absurd ck15 (by decide)
                  · refine lv_aload_n hx hb dX5_diff_77 rfl (lv_at hl 4 rfl) ?_
                    refine va_get (D := (dC, dI)) (ci := 5) (v := .ref (am 4)) (C := RX5) (T := TX5) (N := 19) hx hb hz hinX5 hown hK hP 0 rfl rfl 5 (by decide) (hz _ zw_483) (fun _ h9 => h9) rfl dX5_diff_78 ?_
                    refine lv_aload_n hx hb dX5_diff_81 rfl (lv_at hl 4 rfl) ?_
                    refine va_get (D := (dC, dI)) (ci := 5) (v := .int (nI k)) (C := RX5) (T := TX5) (N := 19) hx hb hz hinX5 hown hK hP 0 rfl rfl 4 (by decide) (hz _ zw_482) (fun _ h9 => h9) rfl dX5_diff_82 ?_
                    refine lv_iload hx hb dX5_diff_85 (lv_at hl 0 rfl) ?_
                    refine t_i2b hx hb dX5_diff_87 (b8 _ (by omega)) ?_
                    refine z_bast hx hb hK hP hD hS 4 2 rfl rfl (k := k) (by omega) (by omega) (n8 (by omega)) dX5_diff_88 (fun H locs hP hD hS => ?_)
                    have hP : va_P (dC, dI) vwCl (([(am 0, .inr (5, [.int (nI 0), .ref (am 1), .ref (am 2), .ref (am 3), .int (nI k), .ref (am 4), .ref (am 5), .ref (am 6), .ref (am 7), .ref (am 8), .ref (am 9), .ref (am 10), .int en, .int cf, .ref (am 11), .ref (am 12), .ref (am 13), .ref (am 14), .ref (am 15)])), (am 1, .inl (cI, 8, .inl sz)), (am 2, .inl (cI, 960, .inl rr)), (am 3, .inl (cS, 14641, .inl co2)), (am 4, .inl (cB, 240, .inl (upd K1 k (nI 2)))), (am 5, .inl (cB, 240, .inl F1)), (am 6, .inl (cB, 240, .inl G1)), (am 7, .inl (cI, 240, .inl V1))] : va_W) ++ ([] : va_W)) H := hP
                    have hD : va_D A (([(am 0, .inr (5, [.int (nI 0), .ref (am 1), .ref (am 2), .ref (am 3), .int (nI k), .ref (am 4), .ref (am 5), .ref (am 6), .ref (am 7), .ref (am 8), .ref (am 9), .ref (am 10), .int en, .int cf, .ref (am 11), .ref (am 12), .ref (am 13), .ref (am 14), .ref (am 15)])), (am 1, .inl (cI, 8, .inl sz)), (am 2, .inl (cI, 960, .inl rr)), (am 3, .inl (cS, 14641, .inl co2)), (am 4, .inl (cB, 240, .inl (upd K1 k (nI 2)))), (am 5, .inl (cB, 240, .inl F1)), (am 6, .inl (cB, 240, .inl G1)), (am 7, .inl (cI, 240, .inl V1))] : va_W) ++ ([] : va_W)) := hD
                    refine lv_aload_n hx hb dX5_diff_89 rfl (lv_at hl 4 rfl) ?_
                    refine va_get (D := (dC, dI)) (ci := 5) (v := .ref (am 5)) (C := RX5) (T := TX5) (N := 19) hx hb hz hinX5 hown hK hP 0 rfl rfl 6 (by decide) (hz _ zw_484) (fun _ h9 => h9) rfl dX5_diff_90 ?_
                    refine lv_aload_n hx hb dX5_diff_93 rfl (lv_at hl 4 rfl) ?_
                    refine va_get (D := (dC, dI)) (ci := 5) (v := .int (nI k)) (C := RX5) (T := TX5) (N := 19) hx hb hz hinX5 hown hK hP 0 rfl rfl 4 (by decide) (hz _ zw_482) (fun _ h9 => h9) rfl dX5_diff_94 ?_
                    refine lv_iload hx hb dX5_diff_97 (lv_at hl 2 rfl) ?_
                    refine t_i2b hx hb dX5_diff_99 (b8 _ (by omega)) ?_
                    refine z_bast hx hb hK hP hD hS 5 2 rfl rfl (k := k) (by omega) (by omega) (n8 (by omega)) dX5_diff_100 (fun H locs hP hD hS => ?_)
                    have hP : va_P (dC, dI) vwCl (([(am 0, .inr (5, [.int (nI 0), .ref (am 1), .ref (am 2), .ref (am 3), .int (nI k), .ref (am 4), .ref (am 5), .ref (am 6), .ref (am 7), .ref (am 8), .ref (am 9), .ref (am 10), .int en, .int cf, .ref (am 11), .ref (am 12), .ref (am 13), .ref (am 14), .ref (am 15)])), (am 1, .inl (cI, 8, .inl sz)), (am 2, .inl (cI, 960, .inl rr)), (am 3, .inl (cS, 14641, .inl co2)), (am 4, .inl (cB, 240, .inl (upd K1 k (nI 2)))), (am 5, .inl (cB, 240, .inl (upd F1 k (nI i)))), (am 6, .inl (cB, 240, .inl G1)), (am 7, .inl (cI, 240, .inl V1))] : va_W) ++ ([] : va_W)) H := hP
                    have hD : va_D A (([(am 0, .inr (5, [.int (nI 0), .ref (am 1), .ref (am 2), .ref (am 3), .int (nI k), .ref (am 4), .ref (am 5), .ref (am 6), .ref (am 7), .ref (am 8), .ref (am 9), .ref (am 10), .int en, .int cf, .ref (am 11), .ref (am 12), .ref (am 13), .ref (am 14), .ref (am 15)])), (am 1, .inl (cI, 8, .inl sz)), (am 2, .inl (cI, 960, .inl rr)), (am 3, .inl (cS, 14641, .inl co2)), (am 4, .inl (cB, 240, .inl (upd K1 k (nI 2)))), (am 5, .inl (cB, 240, .inl (upd F1 k (nI i)))), (am 6, .inl (cB, 240, .inl G1)), (am 7, .inl (cI, 240, .inl V1))] : va_W) ++ ([] : va_W)) := hD
                    refine lv_aload_n hx hb dX5_diff_101 rfl (lv_at hl 4 rfl) ?_
                    refine va_get (D := (dC, dI)) (ci := 5) (v := .ref (am 6)) (C := RX5) (T := TX5) (N := 19) hx hb hz hinX5 hown hK hP 0 rfl rfl 7 (by decide) (hz _ zw_485) (fun _ h9 => h9) rfl dX5_diff_102 ?_
                    refine lv_aload_n hx hb dX5_diff_105 rfl (lv_at hl 4 rfl) ?_
                    refine va_get (D := (dC, dI)) (ci := 5) (v := .int (nI k)) (C := RX5) (T := TX5) (N := 19) hx hb hz hinX5 hown hK hP 0 rfl rfl 4 (by decide) (hz _ zw_482) (fun _ h9 => h9) rfl dX5_diff_106 ?_
                    refine lv_iload hx hb dX5_diff_109 (lv_at hl 1 rfl) ?_
                    refine t_i2b hx hb dX5_diff_111 (b8 _ (by omega)) ?_
                    refine z_bast hx hb hK hP hD hS 6 2 rfl rfl (k := k) (by omega) (by omega) (n8 (by omega)) dX5_diff_112 (fun H locs hP hD hS => ?_)
                    have hP : va_P (dC, dI) vwCl (([(am 0, .inr (5, [.int (nI 0), .ref (am 1), .ref (am 2), .ref (am 3), .int (nI k), .ref (am 4), .ref (am 5), .ref (am 6), .ref (am 7), .ref (am 8), .ref (am 9), .ref (am 10), .int en, .int cf, .ref (am 11), .ref (am 12), .ref (am 13), .ref (am 14), .ref (am 15)])), (am 1, .inl (cI, 8, .inl sz)), (am 2, .inl (cI, 960, .inl rr)), (am 3, .inl (cS, 14641, .inl co2)), (am 4, .inl (cB, 240, .inl (upd K1 k (nI 2)))), (am 5, .inl (cB, 240, .inl (upd F1 k (nI i)))), (am 6, .inl (cB, 240, .inl (upd G1 k (nI j)))), (am 7, .inl (cI, 240, .inl V1))] : va_W) ++ ([] : va_W)) H := hP
                    have hD : va_D A (([(am 0, .inr (5, [.int (nI 0), .ref (am 1), .ref (am 2), .ref (am 3), .int (nI k), .ref (am 4), .ref (am 5), .ref (am 6), .ref (am 7), .ref (am 8), .ref (am 9), .ref (am 10), .int en, .int cf, .ref (am 11), .ref (am 12), .ref (am 13), .ref (am 14), .ref (am 15)])), (am 1, .inl (cI, 8, .inl sz)), (am 2, .inl (cI, 960, .inl rr)), (am 3, .inl (cS, 14641, .inl co2)), (am 4, .inl (cB, 240, .inl (upd K1 k (nI 2)))), (am 5, .inl (cB, 240, .inl (upd F1 k (nI i)))), (am 6, .inl (cB, 240, .inl (upd G1 k (nI j)))), (am 7, .inl (cI, 240, .inl V1))] : va_W) ++ ([] : va_W)) := hD
                    refine lv_aload_n hx hb dX5_diff_113 rfl (lv_at hl 4 rfl) ?_
                    refine va_get (D := (dC, dI)) (ci := 5) (v := .ref (am 7)) (C := RX5) (T := TX5) (N := 19) hx hb hz hinX5 hown hK hP 0 rfl rfl 8 (by decide) (hz _ zw_486) (fun _ h9 => h9) rfl dX5_diff_114 ?_
                    refine lv_aload_n hx hb dX5_diff_117 rfl (lv_at hl 4 rfl) ?_
                    refine va_get (D := (dC, dI)) (ci := 5) (v := .int (nI k)) (C := RX5) (T := TX5) (N := 19) hx hb hz hinX5 hown hK hP 0 rfl rfl 4 (by decide) (hz _ zw_482) (fun _ h9 => h9) rfl dX5_diff_118 ?_
                    refine lv_iload hx hb dX5_diff_121 (lv_at hl 0 rfl) ?_
                    refine lv_iconst (v := nI 2) hx hb dX5_diff_123 (by decide) ?_
                    refine lv_icmp_ne (tgt := 142) hx hb dX5_diff_124 (by decide) (fun ck16 => ?_) (fun ck16 => ?_)
                    · exact absurd ck16 (by decide)
                    · refine lv_aload_n hx hb dX5_diff_127 rfl (lv_at hl 4 rfl) ?_
                      refine va_get (D := (dC, dI)) (ci := 5) (v := .ref (am 2)) (C := RX5) (T := TX5) (N := 19) hx hb hz hinX5 hown hK hP 0 rfl rfl 2 (by decide) (hz _ zw_480) (fun _ h9 => h9) rfl dX5_diff_128 ?_
                      refine lv_bipush (v := nI 120) hx hb dX5_diff_131 (by decide) ?_
                      refine lv_iload_n hx hb dX5_diff_133 rfl (lv_at hl 6 rfl) ?_
                      refine t_imul hx hb dX5_diff_134 (show nI 120 * nI r2 = nI (120 * r2) from (pk_mul _ _)) ?_
                      refine lv_iload hx hb dX5_diff_135 (lv_at hl 1 rfl) ?_
                      refine t_iadd hx hb dX5_diff_137 (show nI (120 * r2) + nI j = nI (120 * r2 + j) from (nI_add _ _)) ?_
                      refine z_iald (v := fs r2 j) hx hb hK hP 2 0 rfl rfl (k := (120 * r2 + j)) (by omega) (by omega) (hrw r2 hr2 j hj2) dX5_diff_138 ?_
                      refine lv_goto (tgt := 154) hx hb dX5_diff_139 (by decide) ?_
                      refine z_iast hx hb hK hP hD hS 7 0 rfl rfl (k := k) (by omega) (by omega) dX5_diff_154 (fun H locs hP hD hS => ?_)
                      have hP : va_P (dC, dI) vwCl (([(am 0, .inr (5, [.int (nI 0), .ref (am 1), .ref (am 2), .ref (am 3), .int (nI k), .ref (am 4), .ref (am 5), .ref (am 6), .ref (am 7), .ref (am 8), .ref (am 9), .ref (am 10), .int en, .int cf, .ref (am 11), .ref (am 12), .ref (am 13), .ref (am 14), .ref (am 15)])), (am 1, .inl (cI, 8, .inl sz)), (am 2, .inl (cI, 960, .inl rr)), (am 3, .inl (cS, 14641, .inl co2)), (am 4, .inl (cB, 240, .inl (upd K1 k (nI 2)))), (am 5, .inl (cB, 240, .inl (upd F1 k (nI i)))), (am 6, .inl (cB, 240, .inl (upd G1 k (nI j)))), (am 7, .inl (cI, 240, .inl (upd V1 k (fs r2 j))))] : va_W) ++ ([] : va_W)) H := hP
                      have hD : va_D A (([(am 0, .inr (5, [.int (nI 0), .ref (am 1), .ref (am 2), .ref (am 3), .int (nI k), .ref (am 4), .ref (am 5), .ref (am 6), .ref (am 7), .ref (am 8), .ref (am 9), .ref (am 10), .int en, .int cf, .ref (am 11), .ref (am 12), .ref (am 13), .ref (am 14), .ref (am 15)])), (am 1, .inl (cI, 8, .inl sz)), (am 2, .inl (cI, 960, .inl rr)), (am 3, .inl (cS, 14641, .inl co2)), (am 4, .inl (cB, 240, .inl (upd K1 k (nI 2)))), (am 5, .inl (cB, 240, .inl (upd F1 k (nI i)))), (am 6, .inl (cB, 240, .inl (upd G1 k (nI j)))), (am 7, .inl (cI, 240, .inl (upd V1 k (fs r2 j))))] : va_W) ++ ([] : va_W)) := hD
                      refine lv_aload_n hx hb dX5_diff_155 rfl (lv_at hl 4 rfl) ?_
                      refine lv_dup hx hb dX5_diff_156 rfl ?_
                      refine va_get (D := (dC, dI)) (ci := 5) (v := .int (nI k)) (C := RX5) (T := TX5) (N := 19) hx hb hz hinX5 hown hK hP 0 rfl rfl 4 (by decide) (hz _ zw_482) (fun _ h9 => h9) rfl dX5_diff_157 ?_
                      refine lv_iconst (v := nI 1) hx hb dX5_diff_160 (by decide) ?_
                      refine t_iadd hx hb dX5_diff_161 (show nI k + nI 1 = nI (k + 1) from (nI_add _ _)) ?_
                      refine va_put (D := (dC, dI)) (ci := 5) (v := .int (nI (k + 1))) (ty := .int) (C := RX5) (T := TX5) (N := 19) hx hb hz hinX5 tyX5 tyX5_ok nmX5 hown hK hP hD hS 0 rfl rfl 4 (by decide) (hz _ zw_482) (fun _ h9 => h9) rfl (by decide +kernel) rfl rfl (Nat.le_of_ble_eq_true rfl) dX5_diff_162 (fun H locs hP hD hS => ?_)
                      have hP : va_P (dC, dI) vwCl (([(am 0, .inr (5, [.int (nI 0), .ref (am 1), .ref (am 2), .ref (am 3), .int (nI (k + 1)), .ref (am 4), .ref (am 5), .ref (am 6), .ref (am 7), .ref (am 8), .ref (am 9), .ref (am 10), .int en, .int cf, .ref (am 11), .ref (am 12), .ref (am 13), .ref (am 14), .ref (am 15)])), (am 1, .inl (cI, 8, .inl sz)), (am 2, .inl (cI, 960, .inl rr)), (am 3, .inl (cS, 14641, .inl co2)), (am 4, .inl (cB, 240, .inl (upd K1 k (nI 2)))), (am 5, .inl (cB, 240, .inl (upd F1 k (nI i)))), (am 6, .inl (cB, 240, .inl (upd G1 k (nI j)))), (am 7, .inl (cI, 240, .inl (upd V1 k (fs r2 j))))] : va_W) ++ ([] : va_W)) H := hP
                      have hD : va_D A (([(am 0, .inr (5, [.int (nI 0), .ref (am 1), .ref (am 2), .ref (am 3), .int (nI (k + 1)), .ref (am 4), .ref (am 5), .ref (am 6), .ref (am 7), .ref (am 8), .ref (am 9), .ref (am 10), .int en, .int cf, .ref (am 11), .ref (am 12), .ref (am 13), .ref (am 14), .ref (am 15)])), (am 1, .inl (cI, 8, .inl sz)), (am 2, .inl (cI, 960, .inl rr)), (am 3, .inl (cS, 14641, .inl co2)), (am 4, .inl (cB, 240, .inl (upd K1 k (nI 2)))), (am 5, .inl (cB, 240, .inl (upd F1 k (nI i)))), (am 6, .inl (cB, 240, .inl (upd G1 k (nI j)))), (am 7, .inl (cI, 240, .inl (upd V1 k (fs r2 j))))] : va_W) ++ ([] : va_W)) := hD
                      refine lv_iload hx hb dX5_diff_165 (lv_at hl 2 rfl) ?_
                      refine lv_iload hx hb dX5_diff_167 (lv_at hl 0 rfl) ?_
                      refine lv_iconst (v := nI 2) hx hb dX5_diff_169 (by decide) ?_
                      refine lv_icmp_ge (tgt := 177) hx hb dX5_diff_170 (by decide) (fun ck17 => ?_) (fun ck17 => ?_)
                      · refine lv_iconst (v := nI 0) hx hb dX5_diff_177 (by decide) ?_
                        refine t_iadd hx hb dX5_diff_178 (show nI i + nI 0 = nI i from (nI_add _ _)) ?_
                        refine lv_istore (lv' := [(4, .int (nI i)), (6, .int (nI 2)), (5, .int (nI j)), (3, .int (nI (dc (fs r1) (fs r2) (ns r1) (ns r2) 0 0))), (0, .ref (am 0)), (1, .int (nI r1)), (2, .int (nI r2))]) hx hb dX5_diff_179 hl (by decide) rfl (fun ls hl => ?_)
                        refine lv_iload hx hb dX5_diff_181 (lv_at hl 2 rfl) ?_
                        refine lv_iload hx hb dX5_diff_183 (lv_at hl 1 rfl) ?_
                        refine lv_iconst (v := nI 1) hx hb dX5_diff_185 (by decide) ?_
                        refine lv_icmp_eq (tgt := 193) hx hb dX5_diff_186 (by decide) (fun ck18 => ?_) (fun ck18 => ?_)
                        · exact absurd ck18 (by decide)
                        · refine lv_iconst (v := nI 1) hx hb dX5_diff_189 (by decide) ?_
                          refine lv_goto (tgt := 194) hx hb dX5_diff_190 (by decide) ?_
                          refine t_iadd hx hb dX5_diff_194 (show nI j + nI 1 = nI (j + 1) from (nI_add _ _)) ?_
                          refine lv_istore (lv' := [(5, .int (nI (j + 1))), (4, .int (nI i)), (6, .int (nI 2)), (3, .int (nI (dc (fs r1) (fs r2) (ns r1) (ns r2) 0 0))), (0, .ref (am 0)), (1, .int (nI r1)), (2, .int (nI r2))]) hx hb dX5_diff_195 hl (by decide) rfl (fun ls hl => ?_)
                          refine lv_aload_n hx hb dX5_diff_197 rfl (lv_at hl 4 rfl) ?_
                          refine lv_iload_n hx hb dX5_diff_198 rfl (lv_at hl 5 rfl) ?_
                          refine lv_iload hx hb dX5_diff_199 (lv_at hl 1 rfl) ?_
                          refine lv_iload_n hx hb dX5_diff_201 rfl (lv_at hl 6 rfl) ?_
                          refine lv_iload hx hb dX5_diff_202 (lv_at hl 0 rfl) ?_
                          refine z_ciQ (wr := ([(am 4, .inl (cB, 240, .inl (upd K1 k (nI 2)))), (am 5, .inl (cB, 240, .inl (upd F1 k (nI i)))), (am 6, .inl (cB, 240, .inl (upd G1 k (nI j)))), (am 7, .inl (cI, 240, .inl (upd V1 k (fs r2 j))))] : va_W)) (cx := ([(am 0, .inr (5, [.int (nI 0), .ref (am 1), .ref (am 2), .ref (am 3), .int (nI (k + 1)), .ref (am 4), .ref (am 5), .ref (am 6), .ref (am 7), .ref (am 8), .ref (am 9), .ref (am 10), .int en, .int cf, .ref (am 11), .ref (am 12), .ref (am 13), .ref (am 14), .ref (am 15)])), (am 1, .inl (cI, 8, .inl sz)), (am 2, .inl (cI, 960, .inl rr)), (am 3, .inl (cS, 14641, .inl co2))] : va_W)) hP hD hS hA [0, 1, 2, 3] [4, 5, 6, 7] rfl rfl (by decide) (by decide) (va_runV (As := [.int (nI r1), .int (nI i), .int (nI r2), .int (nI (j + 1))]) (rest := []) ⟨hx, hb, hml, hown, hz⟩ (c_M_due l dC dI cI cS cB cZ am (nI 0) (nI (k + 1)) en cf sz rr co2 ns fs hns hsz hrw r1 i r2 (j + 1) hr1 hr2 (by omega) (by omega) hco H.size) (cwV 4 hz (zgV zw_577 zw_579 zw_15 zw_27 zw_580) rfl rfl rfl (by decide +kernel) ⟨Nat.le_of_ble_eq_true rfl, Nat.le_of_ble_eq_true rfl⟩) ⟨zP_blind, z_recv hK hP (ci := 5) rfl rfl (q0 := 0) rfl, z_preQ hK hN hP hD [0, 1, 2, 3] rfl (by decide)⟩ rfl rfl hl.1 rfl (lv_room (Nat.le_of_ble_eq_true rfl)) dX5_diff_204 ⟨Nat.le_of_ble_eq_true rfl, Nat.le_of_ble_eq_true rfl⟩) (fun v7 w1 H locs hw hP hD hS => ?_)
                          obtain ⟨h7, hw⟩ := hw
                          subst hw
                          have hP : va_P (dC, dI) vwCl (([(am 4, .inl (cB, 240, .inl (upd K1 k (nI 2)))), (am 5, .inl (cB, 240, .inl (upd F1 k (nI i)))), (am 6, .inl (cB, 240, .inl (upd G1 k (nI j)))), (am 7, .inl (cI, 240, .inl (upd V1 k (fs r2 j)))), (am 0, .inr (5, [.int (nI 0), .ref (am 1), .ref (am 2), .ref (am 3), .int (nI (k + 1)), .ref (am 4), .ref (am 5), .ref (am 6), .ref (am 7), .ref (am 8), .ref (am 9), .ref (am 10), .int en, .int cf, .ref (am 11), .ref (am 12), .ref (am 13), .ref (am 14), .ref (am 15)])), (am 1, .inl (cI, 8, .inl sz)), (am 2, .inl (cI, 960, .inl rr)), (am 3, .inl (cS, 14641, .inl co2))] : va_W) ++ ([] : va_W)) H := hP
                          have hD : va_D A (([(am 4, .inl (cB, 240, .inl (upd K1 k (nI 2)))), (am 5, .inl (cB, 240, .inl (upd F1 k (nI i)))), (am 6, .inl (cB, 240, .inl (upd G1 k (nI j)))), (am 7, .inl (cI, 240, .inl (upd V1 k (fs r2 j)))), (am 0, .inr (5, [.int (nI 0), .ref (am 1), .ref (am 2), .ref (am 3), .int (nI (k + 1)), .ref (am 4), .ref (am 5), .ref (am 6), .ref (am 7), .ref (am 8), .ref (am 9), .ref (am 10), .int en, .int cf, .ref (am 11), .ref (am 12), .ref (am 13), .ref (am 14), .ref (am 15)])), (am 1, .inl (cI, 8, .inl sz)), (am 2, .inl (cI, 960, .inl rr)), (am 3, .inl (cS, 14641, .inl co2))] : va_W) ++ ([] : va_W)) := hD
                          have hP := z_permP (cx := ([(am 0, .inr (5, [.int (nI 0), .ref (am 1), .ref (am 2), .ref (am 3), .int (nI (k + 1)), .ref (am 4), .ref (am 5), .ref (am 6), .ref (am 7), .ref (am 8), .ref (am 9), .ref (am 10), .int en, .int cf, .ref (am 11), .ref (am 12), .ref (am 13), .ref (am 14), .ref (am 15)])), (am 1, .inl (cI, 8, .inl sz)), (am 2, .inl (cI, 960, .inl rr)), (am 3, .inl (cS, 14641, .inl co2)), (am 4, .inl (cB, 240, .inl (upd K1 k (nI 2)))), (am 5, .inl (cB, 240, .inl (upd F1 k (nI i)))), (am 6, .inl (cB, 240, .inl (upd G1 k (nI j)))), (am 7, .inl (cI, 240, .inl (upd V1 k (fs r2 j))))] : va_W)) hP [4, 5, 6, 7, 0, 1, 2, 3] rfl
                          have hD := z_permD (cx := ([(am 0, .inr (5, [.int (nI 0), .ref (am 1), .ref (am 2), .ref (am 3), .int (nI (k + 1)), .ref (am 4), .ref (am 5), .ref (am 6), .ref (am 7), .ref (am 8), .ref (am 9), .ref (am 10), .int en, .int cf, .ref (am 11), .ref (am 12), .ref (am 13), .ref (am 14), .ref (am 15)])), (am 1, .inl (cI, 8, .inl sz)), (am 2, .inl (cI, 960, .inl rr)), (am 3, .inl (cS, 14641, .inl co2)), (am 4, .inl (cB, 240, .inl (upd K1 k (nI 2)))), (am 5, .inl (cB, 240, .inl (upd F1 k (nI i)))), (am 6, .inl (cB, 240, .inl (upd G1 k (nI j)))), (am 7, .inl (cI, 240, .inl (upd V1 k (fs r2 j))))] : va_W)) hD [4, 5, 6, 7, 0, 1, 2, 3] rfl (by decide)
                          refine lv_istore (lv' := [(6, .int v7), (5, .int (nI (j + 1))), (4, .int (nI i)), (3, .int (nI (dc (fs r1) (fs r2) (ns r1) (ns r2) 0 0))), (0, .ref (am 0)), (1, .int (nI r1)), (2, .int (nI r2))]) hx hb dX5_diff_207 hl (by decide) rfl (fun ls hl => ?_)
                          refine lv_goto (tgt := 72) hx hb dX5_diff_209 (by decide) ?_
                          have hkd2 : kd (fs r1) (fs r2) (ns r1) (ns r2) ((ps (fs r1) (fs r2) (ns r1) (ns r2) k).1) ((ps (fs r1) (fs r2) (ns r1) (ns r2) k).2) = 2 := by rw [hps]; exact hkd
                          exact ih (k + 1) i (j + 1) _ _ _ _ _ _ _ ls (by omega) (by rw [ps_s, hkd2, hps]; rfl) (by omega) (by omega) (by omega) (lt_s hnd (by rw [hps]; show i < ns r1 ∨ j < ns r2; omega)) (ag_s hag hkd2 hps (by rw [vl_2 hkd2, hps])) h7 hP hD hS (lv_sub hl [0, 1, 2, 3, 4, 5, 6] rfl)
                      · exact absurd ck17 (by decide)
          exact L1 (ns r1 + ns r2) 0 0 0 v7 mk mf mg mv _ _ ls (by omega) rfl (by omega) (by omega) (by omega) (fun k h => absurd h (Nat.not_lt_zero k)) (fun k h => absurd h (Nat.not_lt_zero k)) h7 hP hD hS (lv_sub hl [0, 1, 2, 3, 4, 5, 6] rfl)
        · have bb4 : ¬ ((dc (fs r1) (fs r2) (ns r1) (ns r2) 0 0) ≤ 100) := fun h => bb4 ((nI_leI (by omega) (by omega)).mpr h)
          refine lv_aload_n hx hb dX5_diff_45 rfl (lv_at hl 1 rfl) ?_
          refine lv_iconst (v := nI 2) hx hb dX5_diff_46 (by decide) ?_
          refine z_ciQ (wr := ([(am 1, .inl (cI, 8, .inl sz)), (am 2, .inl (cI, 960, .inl rr)), (am 3, .inl (cS, 14641, .inl co2)), (am 4, .inl (cB, 240, .inl mk)), (am 5, .inl (cB, 240, .inl mf)), (am 6, .inl (cB, 240, .inl mg)), (am 7, .inl (cI, 240, .inl mv))] : va_W)) (cx := ([(am 0, .inr (5, [.int (nI 0), .ref (am 1), .ref (am 2), .ref (am 3), .int st, .ref (am 4), .ref (am 5), .ref (am 6), .ref (am 7), .ref (am 8), .ref (am 9), .ref (am 10), .int en, .int cf, .ref (am 11), .ref (am 12), .ref (am 13), .ref (am 14), .ref (am 15)]))] : va_W)) hP hD hS hA [0] [1, 2, 3, 4, 5, 6, 7] rfl rfl (by decide) (by decide) (va_runV (As := [.int (nI 2)]) (rest := []) ⟨hx, hb, hml, hown, hz⟩ (c_M_raise l dC dI cI cS cB cZ am (nI 0) st en cf  (nI 2) H.size) (cwV 1 hz (zgV zw_573 zw_575 zw_14 zw_27 zw_576) rfl rfl rfl (by decide +kernel) ⟨Nat.le_of_ble_eq_true rfl, Nat.le_of_ble_eq_true rfl⟩) ⟨zP_blind, z_recv hK hP (ci := 5) rfl rfl (q0 := 0) rfl, z_preQ hK hN hP hD [0] rfl (by decide)⟩ rfl rfl hl.1 rfl (lv_room (Nat.le_of_ble_eq_true rfl)) dX5_diff_47 ⟨Nat.le_of_ble_eq_true rfl, Nat.le_of_ble_eq_true rfl⟩) (fun v4 w1 H locs hw hP hD hS => ?_)
          obtain ⟨rfl, hw⟩ := hw
          subst hw
          have hP : va_P (dC, dI) vwCl (([(am 1, .inl (cI, 8, .inl sz)), (am 2, .inl (cI, 960, .inl rr)), (am 3, .inl (cS, 14641, .inl co2)), (am 4, .inl (cB, 240, .inl mk)), (am 5, .inl (cB, 240, .inl mf)), (am 6, .inl (cB, 240, .inl mg)), (am 7, .inl (cI, 240, .inl mv)), (am 0, .inr (5, [.int (nI 2), .ref (am 1), .ref (am 2), .ref (am 3), .int st, .ref (am 4), .ref (am 5), .ref (am 6), .ref (am 7), .ref (am 8), .ref (am 9), .ref (am 10), .int en, .int cf, .ref (am 11), .ref (am 12), .ref (am 13), .ref (am 14), .ref (am 15)]))] : va_W) ++ ([] : va_W)) H := hP
          have hD : va_D A (([(am 1, .inl (cI, 8, .inl sz)), (am 2, .inl (cI, 960, .inl rr)), (am 3, .inl (cS, 14641, .inl co2)), (am 4, .inl (cB, 240, .inl mk)), (am 5, .inl (cB, 240, .inl mf)), (am 6, .inl (cB, 240, .inl mg)), (am 7, .inl (cI, 240, .inl mv)), (am 0, .inr (5, [.int (nI 2), .ref (am 1), .ref (am 2), .ref (am 3), .int st, .ref (am 4), .ref (am 5), .ref (am 6), .ref (am 7), .ref (am 8), .ref (am 9), .ref (am 10), .int en, .int cf, .ref (am 11), .ref (am 12), .ref (am 13), .ref (am 14), .ref (am 15)]))] : va_W) ++ ([] : va_W)) := hD
          have hP := z_permP (cx := ([(am 0, .inr (5, [.int (nI 2), .ref (am 1), .ref (am 2), .ref (am 3), .int st, .ref (am 4), .ref (am 5), .ref (am 6), .ref (am 7), .ref (am 8), .ref (am 9), .ref (am 10), .int en, .int cf, .ref (am 11), .ref (am 12), .ref (am 13), .ref (am 14), .ref (am 15)])), (am 1, .inl (cI, 8, .inl sz)), (am 2, .inl (cI, 960, .inl rr)), (am 3, .inl (cS, 14641, .inl co2)), (am 4, .inl (cB, 240, .inl mk)), (am 5, .inl (cB, 240, .inl mf)), (am 6, .inl (cB, 240, .inl mg)), (am 7, .inl (cI, 240, .inl mv))] : va_W)) hP [7, 0, 1, 2, 3, 4, 5, 6] rfl
          have hD := z_permD (cx := ([(am 0, .inr (5, [.int (nI 2), .ref (am 1), .ref (am 2), .ref (am 3), .int st, .ref (am 4), .ref (am 5), .ref (am 6), .ref (am 7), .ref (am 8), .ref (am 9), .ref (am 10), .int en, .int cf, .ref (am 11), .ref (am 12), .ref (am 13), .ref (am 14), .ref (am 15)])), (am 1, .inl (cI, 8, .inl sz)), (am 2, .inl (cI, 960, .inl rr)), (am 3, .inl (cS, 14641, .inl co2)), (am 4, .inl (cB, 240, .inl mk)), (am 5, .inl (cB, 240, .inl mf)), (am 6, .inl (cB, 240, .inl mg)), (am 7, .inl (cI, 240, .inl mv))] : va_W)) hD [7, 0, 1, 2, 3, 4, 5, 6] rfl (by decide)
          exact hret H locs _ ([(am 0, .inr (5, [.int (nI 2), .ref (am 1), .ref (am 2), .ref (am 3), .int st, .ref (am 4), .ref (am 5), .ref (am 6), .ref (am 7), .ref (am 8), .ref (am 9), .ref (am 10), .int en, .int cf, .ref (am 11), .ref (am 12), .ref (am 13), .ref (am 14), .ref (am 15)])), (am 1, .inl (cI, 8, .inl sz)), (am 2, .inl (cI, 960, .inl rr)), (am 3, .inl (cS, 14641, .inl co2)), (am 4, .inl (cB, 240, .inl mk)), (am 5, .inl (cB, 240, .inl mf)), (am 6, .inl (cB, 240, .inl mg)), (am 7, .inl (cI, 240, .inl mv))] : va_W) _ ls hP hD hS dX5_diff_50 (Or.inr ⟨r1, r2, hr1, hr2, rfl, rfl, co2, Or.inl ⟨by omega, rfl⟩⟩)
      · exact absurd ck3 (by decide)
