set_option maxHeartbeats 8000000 in
set_option maxRecDepth 100000 in
theorem law_loop {p : Program} {l : Launch} {e : Env} {s : State} {m : MethodId} {args : Array Value} {below : List Frame} {meth : Method} {c : Code} {Q : State → Prop} {A : Nat → Prop} {dC : Nat → ClassId} {dI : Nat → Nat → Nat} {cI cJ cR cS cB cZ : ClassId} {b L : Nat} {xs : Nat → Int32} {ao : Nat} {am ad : Nat → Nat} {fr : Nat → Option Nat} {hs qs : Nat → Nat} (hl9 : l.stackTraces = false) (hF : lwFix p s m args c A dC dI cI cJ cR cS cB cZ b L xs) (hfr : ∀ r, r < 8 → fr r = some (hs r)) (hL : L ≤ 2048) (hend : ∀ (H : Heap) (locs : List Loc) (ls : Array Slot) (t : Nat), t ≤ 513 → va_S A s.heap H locs → W p l e rm_L_law s m args below meth c H locs (60 + 4 * t) (24700 + 24 * t) Q (F0 m 825 ls [.int (nI 1)])) : ∀ d t : Nat, t + d = 513 → lwNext p l e s m args below meth c Q A dC dI cI cJ cR cS cB cZ b ao am ad fr hs qs t := by
  obtain ⟨hx, hb, hml, hown, hz, hA, hKc, hKm, hN, hT, hNc, hX, hbl, hbA⟩ := id hF
  intro d
  induction d with
  | zero =>
    intro t ht9
    unfold lwNext
    intro ob ar eb ct ns fs cd st en cf sz rr co mk mf mg mv be ma go va pu ta pl md H locs ls hinv hP hD hS hl
    refine lv_iload hx hb dL_law_23 (lv_at hl 4 rfl) ?_
    refine lv_aload_n hx hb dL_law_25 rfl (lv_at hl 0 rfl) ?_
    refine va_slen hx hb hX hbl hbA hS dL_law_26 ?_
    refine lv_iconst (v := nI 4) hx hb dL_law_27 (by decide) ?_
    refine lv_isub hx hb dL_law_28 ?_
    refine lv_icmp_gt (tgt := 824) hx hb dL_law_29 (by decide) (fun c1 => ?_) (fun c1 => ?_)
    · refine lv_iconst (v := nI 1) hx hb dL_law_824 (by decide) ?_
      exact hend H locs ls t (by omega) hS
    · have ht : 4 * t + 4 ≤ L := lw_more hL (by omega) c1
      exact absurd ht (by omega)
  | succ d ih =>
    intro t ht9
    unfold lwNext
    intro ob ar eb ct ns fs cd st en cf sz rr co mk mf mg mv be ma go va pu ta pl md H locs ls hinv hP hD hS hl
    refine lv_iload hx hb dL_law_23 (lv_at hl 4 rfl) ?_
    refine lv_aload_n hx hb dL_law_25 rfl (lv_at hl 0 rfl) ?_
    refine va_slen hx hb hX hbl hbA hS dL_law_26 ?_
    refine lv_iconst (v := nI 4) hx hb dL_law_27 (by decide) ?_
    refine lv_isub hx hb dL_law_28 ?_
    refine lv_icmp_gt (tgt := 824) hx hb dL_law_29 (by decide) (fun c1 => ?_) (fun c1 => ?_)
    · refine lv_iconst (v := nI 1) hx hb dL_law_824 (by decide) ?_
      exact hend H locs ls t (by omega) hS
    · have ht : 4 * t + 4 ≤ L := lw_more hL (by omega) c1
      have hnext := ih (t + 1) (by omega)
      refine lv_aload_n hx hb dL_law_32 rfl (lv_at hl 0 rfl) ?_
      refine lv_iload hx hb dL_law_33 (lv_at hl 4 rfl) ?_
      refine z_sld (k := 4 * t) hx hb hX hbl hbA hS (by omega) (by omega) dL_law_35 ?_
      refine lv_bipush (v := nI 15) hx hb dL_law_36 (by decide) ?_
      refine lv_iand hx hb dL_law_38 ?_
      obtain ⟨k, hk, hsw⟩ := sw15 (xs (4 * t))
      rw [hsw]
      rcases (show k = 0 ∨ k = 1 ∨ k = 2 ∨ k = 3 ∨ k = 4 ∨ k = 5 ∨ k = 6 ∨ k = 7 ∨ k = 8 ∨ k = 9 ∨ k = 10 ∨ k = 11 ∨ k = 12 ∨ k = 13 ∨ k = 14 ∨ k = 15 by omega) with rfl | rfl | rfl | rfl | rfl | rfl | rfl | rfl | rfl | rfl | rfl | rfl | rfl | rfl | rfl | rfl
      · refine lv_tableIn (off := 69) (tgt := 108) hx hb dL_law_39 (by decide) (by decide) (by decide) (by decide) ?_
        exact law_op0 hl9 hF hfr hL ht ob ar eb ct ns fs cd st en cf sz rr co mk mf mg mv be ma go va pu ta pl md H locs ls hinv hP hD hS (lv_sub hl [0, 1, 2, 3, 4] rfl) hnext
      · refine lv_tableIn (off := 106) (tgt := 145) hx hb dL_law_39 (by decide) (by decide) (by decide) (by decide) ?_
        exact law_op1 hl9 hF hfr hL ht ob ar eb ct ns fs cd st en cf sz rr co mk mf mg mv be ma go va pu ta pl md H locs ls hinv hP hD hS (lv_sub hl [0, 1, 2, 3, 4] rfl) hnext
      · refine lv_tableIn (off := 131) (tgt := 170) hx hb dL_law_39 (by decide) (by decide) (by decide) (by decide) ?_
        exact law_op2 hl9 hF hfr hL ht ob ar eb ct ns fs cd st en cf sz rr co mk mf mg mv be ma go va pu ta pl md H locs ls hinv hP hD hS (lv_sub hl [0, 1, 2, 3, 4] rfl) hnext
      · refine lv_tableIn (off := 156) (tgt := 195) hx hb dL_law_39 (by decide) (by decide) (by decide) (by decide) ?_
        exact law_op3 hl9 hF hfr hL ht ob ar eb ct ns fs cd st en cf sz rr co mk mf mg mv be ma go va pu ta pl md H locs ls hinv hP hD hS (lv_sub hl [0, 1, 2, 3, 4] rfl) hnext
      · refine lv_tableIn (off := 224) (tgt := 263) hx hb dL_law_39 (by decide) (by decide) (by decide) (by decide) ?_
        exact law_op4 hl9 hF hfr hL ht ob ar eb ct ns fs cd st en cf sz rr co mk mf mg mv be ma go va pu ta pl md H locs ls hinv hP hD hS (lv_sub hl [0, 1, 2, 3, 4] rfl) hnext
      · refine lv_tableIn (off := 292) (tgt := 331) hx hb dL_law_39 (by decide) (by decide) (by decide) (by decide) ?_
        exact law_op5 hl9 hF hfr hL ht ob ar eb ct ns fs cd st en cf sz rr co mk mf mg mv be ma go va pu ta pl md H locs ls hinv hP hD hS (lv_sub hl [0, 1, 2, 3, 4] rfl) hnext
      · refine lv_tableIn (off := 305) (tgt := 344) hx hb dL_law_39 (by decide) (by decide) (by decide) (by decide) ?_
        exact law_op6 hl9 hF hfr hL ht ob ar eb ct ns fs cd st en cf sz rr co mk mf mg mv be ma go va pu ta pl md H locs ls hinv hP hD hS (lv_sub hl [0, 1, 2, 3, 4] rfl) hnext
      · refine lv_tableIn (off := 373) (tgt := 412) hx hb dL_law_39 (by decide) (by decide) (by decide) (by decide) ?_
        exact law_op7 hl9 hF hfr hL ht ob ar eb ct ns fs cd st en cf sz rr co mk mf mg mv be ma go va pu ta pl md H locs ls hinv hP hD hS (lv_sub hl [0, 1, 2, 3, 4] rfl) hnext
      · refine lv_tableIn (off := 386) (tgt := 425) hx hb dL_law_39 (by decide) (by decide) (by decide) (by decide) ?_
        exact law_op8 hl9 hF hfr hL ht ob ar eb ct ns fs cd st en cf sz rr co mk mf mg mv be ma go va pu ta pl md H locs ls hinv hP hD hS (lv_sub hl [0, 1, 2, 3, 4] rfl) hnext
      · refine lv_tableIn (off := 454) (tgt := 493) hx hb dL_law_39 (by decide) (by decide) (by decide) (by decide) ?_
        exact law_op9 hl9 hF hfr hL ht ob ar eb ct ns fs cd st en cf sz rr co mk mf mg mv be ma go va pu ta pl md H locs ls hinv hP hD hS (lv_sub hl [0, 1, 2, 3, 4] rfl) hnext
      · refine lv_tableIn (off := 550) (tgt := 589) hx hb dL_law_39 (by decide) (by decide) (by decide) (by decide) ?_
        exact law_op10 hl9 hF hfr hL ht ob ar eb ct ns fs cd st en cf sz rr co mk mf mg mv be ma go va pu ta pl md H locs ls hinv hP hD hS (lv_sub hl [0, 1, 2, 3, 4] rfl) hnext
      · refine lv_tableIn (off := 630) (tgt := 669) hx hb dL_law_39 (by decide) (by decide) (by decide) (by decide) ?_
        exact law_op11 hl9 hF hfr hL ht ob ar eb ct ns fs cd st en cf sz rr co mk mf mg mv be ma go va pu ta pl md H locs ls hinv hP hD hS (lv_sub hl [0, 1, 2, 3, 4] rfl) hnext
      · refine lv_tableIn (off := 698) (tgt := 737) hx hb dL_law_39 (by decide) (by decide) (by decide) (by decide) ?_
        exact law_op12 hl9 hF hfr hL ht ob ar eb ct ns fs cd st en cf sz rr co mk mf mg mv be ma go va pu ta pl md H locs ls hinv hP hD hS (lv_sub hl [0, 1, 2, 3, 4] rfl) hnext
      · refine lv_tableIn (off := 711) (tgt := 750) hx hb dL_law_39 (by decide) (by decide) (by decide) (by decide) ?_
        exact law_op13 hl9 hF hfr hL ht ob ar eb ct ns fs cd st en cf sz rr co mk mf mg mv be ma go va pu ta pl md H locs ls hinv hP hD hS (lv_sub hl [0, 1, 2, 3, 4] rfl) hnext
      · refine lv_tableOut (tgt := 818) hx hb dL_law_39 (by decide) (by decide) ?_
        refine lv_iinc (v := nI (4 * (t + 1))) (lv' := [(4, .int (nI (4 * (t + 1)))), (0, .ref b), (1, .ref (ad 0)), (2, .ref (am 0)), (3, .ref ao)]) hx hb dL_law_818 hl (k := 4) rfl (by rw [show Int32.ofInt 4 = nI 4 by decide]; exact nI_add _ _) (by decide) rfl (fun ls hl => ?_)
        refine lv_goto (tgt := 23) hx hb dL_law_821 (by decide) ?_
        refine W.widen (k := 60 + 4 * (t + 1)) (n := 24700 + 24 * (t + 1)) (Nat.le_trans (Nat.le_of_eq (show _ = 60 + 4 * t from rfl)) (show 60 + 4 * t ≤ 60 + 4 * (t + 1) by omega)) (Nat.le_trans (Nat.le_of_eq (show _ = 24700 + 24 * t from rfl)) (show 24700 + 24 * t ≤ 24700 + 24 * (t + 1) by omega)) ?_
        exact hnext ob ar eb ct ns fs cd st en cf sz rr co mk mf mg mv be ma go va pu ta pl md H locs ls hinv hP hD hS (lv_sub hl [1, 2, 3, 4, 0] rfl)
      · refine lv_tableOut (tgt := 818) hx hb dL_law_39 (by decide) (by decide) ?_
        refine lv_iinc (v := nI (4 * (t + 1))) (lv' := [(4, .int (nI (4 * (t + 1)))), (0, .ref b), (1, .ref (ad 0)), (2, .ref (am 0)), (3, .ref ao)]) hx hb dL_law_818 hl (k := 4) rfl (by rw [show Int32.ofInt 4 = nI 4 by decide]; exact nI_add _ _) (by decide) rfl (fun ls hl => ?_)
        refine lv_goto (tgt := 23) hx hb dL_law_821 (by decide) ?_
        refine W.widen (k := 60 + 4 * (t + 1)) (n := 24700 + 24 * (t + 1)) (Nat.le_trans (Nat.le_of_eq (show _ = 60 + 4 * t from rfl)) (show 60 + 4 * t ≤ 60 + 4 * (t + 1) by omega)) (Nat.le_trans (Nat.le_of_eq (show _ = 24700 + 24 * t from rfl)) (show 24700 + 24 * t ≤ 24700 + 24 * (t + 1) by omega)) ?_
        exact hnext ob ar eb ct ns fs cd st en cf sz rr co mk mf mg mv be ma go va pu ta pl md H locs ls hinv hP hD hS (lv_sub hl [1, 2, 3, 4, 0] rfl)

set_option maxHeartbeats 8000000 in
set_option maxRecDepth 100000 in
theorem law_start {p : Program} {l : Launch} {e : Env} {s : State} {m : MethodId} {args : Array Value} {below : List Frame} {meth : Method} {c : Code} {Q : State → Prop} {A : Nat → Prop} {dC : Nat → ClassId} {dI : Nat → Nat → Nat} {cI cJ cR cS cB cZ : ClassId} {b L : Nat} {xs : Nat → Int32} {ls : Array Slot} (hl9 : l.stackTraces = false) (hF : lwFix p s m args c A dC dI cI cJ cR cS cB cZ b L xs) (hL : L ≤ 2048) (hend : ∀ (H : Heap) (locs : List Loc) (ls : Array Slot) (t : Nat), t ≤ 513 → va_S A s.heap H locs → W p l e rm_L_law s m args below meth c H locs (60 + 4 * t) (24700 + 24 * t) Q (F0 m 825 ls [.int (nI 1)])) (hl : lv_has ls 7 [(0, .ref b)]) : W p l e rm_L_law s m args below meth c s.heap [] 0 0 Q (F0 m 0 ls []) := by
  obtain ⟨hx, hb, hml, hown, hz, hA, hKc, hKm, hN, hT, hNc, hX, hbl, hbA⟩ := id hF
  have hP : va_P (dC, dI) vwCl (([] : va_W) ++ ([] : va_W)) s.heap := fun k q h => by simp at h
  have hD : va_D A (([] : va_W) ++ ([] : va_W)) := ⟨fun i j p q h => by simp at h, fun k q h => by simp at h⟩
  have hS : va_S A s.heap s.heap [] := va_S.rf
  have hK := hKc
  refine va_new (ci := 4) (fs := [.null, .null, .null, .null, .null, .null]) (C := RX4) (T := TX4) (N := 6) hx hb hz hinX4 tyX4 tyX4_ok hown (hz _ zw_35) (hz _ zw_36) (hz _ zw_22) hK hP hD hS hA rfl (fun j hj => by rcases (show j = 0 ∨ j = 1 ∨ j = 2 ∨ j = 3 ∨ j = 4 ∨ j = 5 by omega) with rfl | rfl | rfl | rfl | rfl | rfl <;> rfl) (Nat.le_of_ble_eq_true rfl) (Nat.le_of_ble_eq_true rfl) dL_law_0 (fun q1 H hP hD hS => ?_)
  refine W.widen (k := 1) (n := 6) (by decide) (by decide) ?_
  have hP : va_P (dC, dI) vwCl (([(q1, .inr (4, [.null, .null, .null, .null, .null, .null]))] : va_W) ++ ([] : va_W)) H := hP
  have hD : va_D A (([(q1, .inr (4, [.null, .null, .null, .null, .null, .null]))] : va_W) ++ ([] : va_W)) := hD
  refine lv_dup hx hb dL_law_3 rfl ?_
  refine z_cvQ (wr := ([] : va_W)) (cx := ([(q1, .inr (4, [.null, .null, .null, .null, .null, .null]))] : va_W)) hP hD hS hA [0] [] rfl rfl (by decide) (by decide) (va_runI (As := []) (rest := [.ref q1]) ⟨hx, hb, hml, hown, hz⟩ (c_RD_init l dC dI cI cJ cR q1 H.size) (cwI 0 hz (zgI zw_39) rfl rfl rfl (hz _ zw_22) (hz _ zw_37) (hz _ zw_38) rfl (by decide +kernel) ⟨Nat.le_of_ble_eq_true rfl, Nat.le_of_ble_eq_true rfl⟩) ⟨zP_blind, z_preQ hK hN hP hD [0] rfl (by decide)⟩ rfl rfl hl.1 rfl (lv_room (Nat.le_of_ble_eq_true rfl)) dL_law_4 ⟨Nat.le_of_ble_eq_true rfl, Nat.le_of_ble_eq_true rfl⟩) (fun w1 H locs hw hP hD hS => ?_)
  have hPn := hP
  have hDn := hD
  have hSn := hS
  obtain ⟨ad, fr, hs, qs, had, hfr, hw⟩ := hw
  subst hw
  subst had
  have hP := hPn
  have hD := hDn
  have hS := hSn
  rw [List.append_nil] at hP hD
  have hP : va_P (dC, dI) vwCl (([] : va_W) ++ (clsW cI cJ cR ad (fun _ => fun _ => 0) (fun _ => 0) (fun k => if k < 4 then (-1) else nI 0) fr hs qs (fun _ => 0) (fun _ => fun _ => 0))) H := hP
  have hD : va_D A (([] : va_W) ++ (clsW cI cJ cR ad (fun _ => fun _ => 0) (fun _ => 0) (fun k => if k < 4 then (-1) else nI 0) fr hs qs (fun _ => 0) (fun _ => fun _ => 0))) := hD
  refine W.widen (k := 41) (n := 5694) (Nat.le_of_ble_eq_true rfl) (Nat.le_of_ble_eq_true rfl) ?_
  refine lv_astore_n (lv' := [(1, .ref (ad 0)), (0, .ref b)]) hx hb dL_law_7 rfl hl (by decide) rfl (fun ls hl => ?_)
  have hK := hKm
  refine va_new (ci := 5) (fs := [.int 0, .null, .null, .null, .int 0, .null, .null, .null, .null, .null, .null, .null, .int 0, .int 0, .null, .null, .null, .null, .null]) (C := RX5) (T := TX5) (N := 19) hx hb hz hinX5 tyX5 tyX5_ok hown (hz _ zw_472) (hz _ zw_473) (hz _ zw_27) hK hP hD hS hA rfl (fun j hj => by rcases (show j = 0 ∨ j = 1 ∨ j = 2 ∨ j = 3 ∨ j = 4 ∨ j = 5 ∨ j = 6 ∨ j = 7 ∨ j = 8 ∨ j = 9 ∨ j = 10 ∨ j = 11 ∨ j = 12 ∨ j = 13 ∨ j = 14 ∨ j = 15 ∨ j = 16 ∨ j = 17 ∨ j = 18 by omega) with rfl | rfl | rfl | rfl | rfl | rfl | rfl | rfl | rfl | rfl | rfl | rfl | rfl | rfl | rfl | rfl | rfl | rfl | rfl <;> rfl) (Nat.le_of_ble_eq_true rfl) (Nat.le_of_ble_eq_true rfl) dL_law_8 (fun q2 H hP hD hS => ?_)
  refine W.widen (k := 42) (n := 5713) (by decide) (by decide) ?_
  have hP := z_rotP hP
  have hD := z_rotD hD
  have hP : va_P (dC, dI) vwCl (([(q2, .inr (5, [.int 0, .null, .null, .null, .int 0, .null, .null, .null, .null, .null, .null, .null, .int 0, .int 0, .null, .null, .null, .null, .null]))] : va_W) ++ (clsW cI cJ cR ad (fun _ => fun _ => 0) (fun _ => 0) (fun k => if k < 4 then (-1) else nI 0) fr hs qs (fun _ => 0) (fun _ => fun _ => 0))) H := hP
  have hD : va_D A (([(q2, .inr (5, [.int 0, .null, .null, .null, .int 0, .null, .null, .null, .null, .null, .null, .null, .int 0, .int 0, .null, .null, .null, .null, .null]))] : va_W) ++ (clsW cI cJ cR ad (fun _ => fun _ => 0) (fun _ => 0) (fun k => if k < 4 then (-1) else nI 0) fr hs qs (fun _ => 0) (fun _ => fun _ => 0))) := hD
  refine lv_dup hx hb dL_law_11 rfl ?_
  refine z_cvQ (wr := ([] : va_W)) (cx := ([(q2, .inr (5, [.int 0, .null, .null, .null, .int 0, .null, .null, .null, .null, .null, .null, .null, .int 0, .int 0, .null, .null, .null, .null, .null]))] : va_W)) hP hD hS hA [0] [] rfl rfl (by decide) (by decide) (va_runI (As := []) (rest := [.ref q2]) ⟨hx, hb, hml, hown, hz⟩ (c_M_init l dC dI cI cS cB cZ q2 H.size) (cwI 0 hz (zgI zw_476) rfl rfl rfl (hz _ zw_27) (hz _ zw_474) (hz _ zw_475) rfl (by decide +kernel) ⟨Nat.le_of_ble_eq_true rfl, Nat.le_of_ble_eq_true rfl⟩) ⟨zP_blind, z_preQ hK hN hP hD [0] rfl (by decide)⟩ rfl rfl hl.1 rfl (lv_room (Nat.le_of_ble_eq_true rfl)) dL_law_12 ⟨Nat.le_of_ble_eq_true rfl, Nat.le_of_ble_eq_true rfl⟩) (fun w1 H locs hw hP hD hS => ?_)
  obtain ⟨am, ham, hw⟩ := hw
  subst hw
  have hP : va_P (dC, dI) vwCl (([(am 0, .inr (5, [.int 0, .ref (am 1), .ref (am 2), .ref (am 3), .int (-1), .ref (am 4), .ref (am 5), .ref (am 6), .ref (am 7), .ref (am 8), .ref (am 9), .ref (am 10), .int (-1), .int (-1), .ref (am 11), .ref (am 12), .ref (am 13), .ref (am 14), .ref (am 15)])), (am 1, .inl (cI, 8, .inl (fun _ => 0))), (am 2, .inl (cI, 960, .inl (fun _ => 0))), (am 3, .inl (cS, 14641, .inl (fun _ => 0))), (am 4, .inl (cB, 240, .inl (fun _ => 0))), (am 5, .inl (cB, 240, .inl (fun _ => 0))), (am 6, .inl (cB, 240, .inl (fun _ => 0))), (am 7, .inl (cI, 240, .inl (fun _ => 0))), (am 8, .inl (cB, 242, .inl (fun _ => 0))), (am 9, .inl (cB, 242, .inl (fun _ => 0))), (am 10, .inl (cZ, 242, .inl (fun _ => 0))), (am 11, .inl (cI, 330, .inl (fun _ => 0))), (am 12, .inl (cB, 330, .inl (fun _ => 0))), (am 13, .inl (cB, 330, .inl (fun _ => 0))), (am 14, .inl (cB, 330, .inl (fun _ => 0))), (am 15, .inl (cI, 330, .inl (fun _ => 0)))] : va_W) ++ (clsW cI cJ cR ad (fun _ => fun _ => 0) (fun _ => 0) (fun k => if k < 4 then (-1) else nI 0) fr hs qs (fun _ => 0) (fun _ => fun _ => 0))) H := hP
  have hD : va_D A (([(am 0, .inr (5, [.int 0, .ref (am 1), .ref (am 2), .ref (am 3), .int (-1), .ref (am 4), .ref (am 5), .ref (am 6), .ref (am 7), .ref (am 8), .ref (am 9), .ref (am 10), .int (-1), .int (-1), .ref (am 11), .ref (am 12), .ref (am 13), .ref (am 14), .ref (am 15)])), (am 1, .inl (cI, 8, .inl (fun _ => 0))), (am 2, .inl (cI, 960, .inl (fun _ => 0))), (am 3, .inl (cS, 14641, .inl (fun _ => 0))), (am 4, .inl (cB, 240, .inl (fun _ => 0))), (am 5, .inl (cB, 240, .inl (fun _ => 0))), (am 6, .inl (cB, 240, .inl (fun _ => 0))), (am 7, .inl (cI, 240, .inl (fun _ => 0))), (am 8, .inl (cB, 242, .inl (fun _ => 0))), (am 9, .inl (cB, 242, .inl (fun _ => 0))), (am 10, .inl (cZ, 242, .inl (fun _ => 0))), (am 11, .inl (cI, 330, .inl (fun _ => 0))), (am 12, .inl (cB, 330, .inl (fun _ => 0))), (am 13, .inl (cB, 330, .inl (fun _ => 0))), (am 14, .inl (cB, 330, .inl (fun _ => 0))), (am 15, .inl (cI, 330, .inl (fun _ => 0)))] : va_W) ++ (clsW cI cJ cR ad (fun _ => fun _ => 0) (fun _ => 0) (fun k => if k < 4 then (-1) else nI 0) fr hs qs (fun _ => 0) (fun _ => fun _ => 0))) := hD
  have hPn := hP
  have hDn := hD
  have hSn := hS
  subst ham
  have hP := hPn
  have hD := hDn
  have hS := hSn
  have hP : va_P (dC, dI) vwCl (([(am 0, .inr (5, [.int 0, .ref (am 1), .ref (am 2), .ref (am 3), .int (-1), .ref (am 4), .ref (am 5), .ref (am 6), .ref (am 7), .ref (am 8), .ref (am 9), .ref (am 10), .int (-1), .int (-1), .ref (am 11), .ref (am 12), .ref (am 13), .ref (am 14), .ref (am 15)])), (am 1, .inl (cI, 8, .inl (fun _ => 0))), (am 2, .inl (cI, 960, .inl (fun _ => 0))), (am 3, .inl (cS, 14641, .inl (fun _ => 0))), (am 4, .inl (cB, 240, .inl (fun _ => 0))), (am 5, .inl (cB, 240, .inl (fun _ => 0))), (am 6, .inl (cB, 240, .inl (fun _ => 0))), (am 7, .inl (cI, 240, .inl (fun _ => 0))), (am 8, .inl (cB, 242, .inl (fun _ => 0))), (am 9, .inl (cB, 242, .inl (fun _ => 0))), (am 10, .inl (cZ, 242, .inl (fun _ => 0))), (am 11, .inl (cI, 330, .inl (fun _ => 0))), (am 12, .inl (cB, 330, .inl (fun _ => 0))), (am 13, .inl (cB, 330, .inl (fun _ => 0))), (am 14, .inl (cB, 330, .inl (fun _ => 0))), (am 15, .inl (cI, 330, .inl (fun _ => 0)))] : va_W) ++ (clsW cI cJ cR ad (fun _ => fun _ => 0) (fun _ => 0) (fun k => if k < 4 then (-1) else nI 0) fr hs qs (fun _ => 0) (fun _ => fun _ => 0))) H := hP
  have hD : va_D A (([(am 0, .inr (5, [.int 0, .ref (am 1), .ref (am 2), .ref (am 3), .int (-1), .ref (am 4), .ref (am 5), .ref (am 6), .ref (am 7), .ref (am 8), .ref (am 9), .ref (am 10), .int (-1), .int (-1), .ref (am 11), .ref (am 12), .ref (am 13), .ref (am 14), .ref (am 15)])), (am 1, .inl (cI, 8, .inl (fun _ => 0))), (am 2, .inl (cI, 960, .inl (fun _ => 0))), (am 3, .inl (cS, 14641, .inl (fun _ => 0))), (am 4, .inl (cB, 240, .inl (fun _ => 0))), (am 5, .inl (cB, 240, .inl (fun _ => 0))), (am 6, .inl (cB, 240, .inl (fun _ => 0))), (am 7, .inl (cI, 240, .inl (fun _ => 0))), (am 8, .inl (cB, 242, .inl (fun _ => 0))), (am 9, .inl (cB, 242, .inl (fun _ => 0))), (am 10, .inl (cZ, 242, .inl (fun _ => 0))), (am 11, .inl (cI, 330, .inl (fun _ => 0))), (am 12, .inl (cB, 330, .inl (fun _ => 0))), (am 13, .inl (cB, 330, .inl (fun _ => 0))), (am 14, .inl (cB, 330, .inl (fun _ => 0))), (am 15, .inl (cI, 330, .inl (fun _ => 0)))] : va_W) ++ (clsW cI cJ cR ad (fun _ => fun _ => 0) (fun _ => 0) (fun k => if k < 4 then (-1) else nI 0) fr hs qs (fun _ => 0) (fun _ => fun _ => 0))) := hD
  refine W.widen (k := 57) (n := 24658) (Nat.le_of_ble_eq_true rfl) (Nat.le_of_ble_eq_true rfl) ?_
  refine lv_astore_n (lv' := [(2, .ref (am 0)), (1, .ref (ad 0)), (0, .ref b)]) hx hb dL_law_15 rfl hl (by decide) rfl (fun ls hl => ?_)
  refine lv_iconst (v := nI 1) hx hb dL_law_16 (by decide) ?_
  have hK := hKc
  refine z_newl hx hb (hz _ zw_79) hK hP hD hS hA 1 1 rfl (by decide) (Nat.le_of_ble_eq_true rfl) (Nat.le_of_ble_eq_true rfl) dL_law_17 (fun q3 H hP hD hS => ?_)
  refine W.widen (k := 58) (n := 24659) (by decide) (by decide) ?_
  have hP := z_rotP hP
  have hD := z_rotD hD
  have hP : va_P (dC, dI) vwCl (([(am 0, .inr (5, [.int 0, .ref (am 1), .ref (am 2), .ref (am 3), .int (-1), .ref (am 4), .ref (am 5), .ref (am 6), .ref (am 7), .ref (am 8), .ref (am 9), .ref (am 10), .int (-1), .int (-1), .ref (am 11), .ref (am 12), .ref (am 13), .ref (am 14), .ref (am 15)])), (am 1, .inl (cI, 8, .inl (fun _ => 0))), (am 2, .inl (cI, 960, .inl (fun _ => 0))), (am 3, .inl (cS, 14641, .inl (fun _ => 0))), (am 4, .inl (cB, 240, .inl (fun _ => 0))), (am 5, .inl (cB, 240, .inl (fun _ => 0))), (am 6, .inl (cB, 240, .inl (fun _ => 0))), (am 7, .inl (cI, 240, .inl (fun _ => 0))), (am 8, .inl (cB, 242, .inl (fun _ => 0))), (am 9, .inl (cB, 242, .inl (fun _ => 0))), (am 10, .inl (cZ, 242, .inl (fun _ => 0))), (am 11, .inl (cI, 330, .inl (fun _ => 0))), (am 12, .inl (cB, 330, .inl (fun _ => 0))), (am 13, .inl (cB, 330, .inl (fun _ => 0))), (am 14, .inl (cB, 330, .inl (fun _ => 0))), (am 15, .inl (cI, 330, .inl (fun _ => 0))), (q3, .inl (cJ, 1, .inr (.inl (fun _ => 0))))] : va_W) ++ (clsW cI cJ cR ad (fun _ => fun _ => 0) (fun _ => 0) (fun k => if k < 4 then (-1) else nI 0) fr hs qs (fun _ => 0) (fun _ => fun _ => 0))) H := hP
  have hD : va_D A (([(am 0, .inr (5, [.int 0, .ref (am 1), .ref (am 2), .ref (am 3), .int (-1), .ref (am 4), .ref (am 5), .ref (am 6), .ref (am 7), .ref (am 8), .ref (am 9), .ref (am 10), .int (-1), .int (-1), .ref (am 11), .ref (am 12), .ref (am 13), .ref (am 14), .ref (am 15)])), (am 1, .inl (cI, 8, .inl (fun _ => 0))), (am 2, .inl (cI, 960, .inl (fun _ => 0))), (am 3, .inl (cS, 14641, .inl (fun _ => 0))), (am 4, .inl (cB, 240, .inl (fun _ => 0))), (am 5, .inl (cB, 240, .inl (fun _ => 0))), (am 6, .inl (cB, 240, .inl (fun _ => 0))), (am 7, .inl (cI, 240, .inl (fun _ => 0))), (am 8, .inl (cB, 242, .inl (fun _ => 0))), (am 9, .inl (cB, 242, .inl (fun _ => 0))), (am 10, .inl (cZ, 242, .inl (fun _ => 0))), (am 11, .inl (cI, 330, .inl (fun _ => 0))), (am 12, .inl (cB, 330, .inl (fun _ => 0))), (am 13, .inl (cB, 330, .inl (fun _ => 0))), (am 14, .inl (cB, 330, .inl (fun _ => 0))), (am 15, .inl (cI, 330, .inl (fun _ => 0))), (q3, .inl (cJ, 1, .inr (.inl (fun _ => 0))))] : va_W) ++ (clsW cI cJ cR ad (fun _ => fun _ => 0) (fun _ => 0) (fun k => if k < 4 then (-1) else nI 0) fr hs qs (fun _ => 0) (fun _ => fun _ => 0))) := hD
  have hP := z_permP (cx := ([(q3, .inl (cJ, 1, .inr (.inl (fun _ => 0)))), (am 0, .inr (5, [.int 0, .ref (am 1), .ref (am 2), .ref (am 3), .int (-1), .ref (am 4), .ref (am 5), .ref (am 6), .ref (am 7), .ref (am 8), .ref (am 9), .ref (am 10), .int (-1), .int (-1), .ref (am 11), .ref (am 12), .ref (am 13), .ref (am 14), .ref (am 15)])), (am 1, .inl (cI, 8, .inl (fun _ => 0))), (am 2, .inl (cI, 960, .inl (fun _ => 0))), (am 3, .inl (cS, 14641, .inl (fun _ => 0))), (am 4, .inl (cB, 240, .inl (fun _ => 0))), (am 5, .inl (cB, 240, .inl (fun _ => 0))), (am 6, .inl (cB, 240, .inl (fun _ => 0))), (am 7, .inl (cI, 240, .inl (fun _ => 0))), (am 8, .inl (cB, 242, .inl (fun _ => 0))), (am 9, .inl (cB, 242, .inl (fun _ => 0))), (am 10, .inl (cZ, 242, .inl (fun _ => 0))), (am 11, .inl (cI, 330, .inl (fun _ => 0))), (am 12, .inl (cB, 330, .inl (fun _ => 0))), (am 13, .inl (cB, 330, .inl (fun _ => 0))), (am 14, .inl (cB, 330, .inl (fun _ => 0))), (am 15, .inl (cI, 330, .inl (fun _ => 0)))] : va_W)) hP [16, 0, 1, 2, 3, 4, 5, 6, 7, 8, 9, 10, 11, 12, 13, 14, 15] rfl
  have hD := z_permD (cx := ([(q3, .inl (cJ, 1, .inr (.inl (fun _ => 0)))), (am 0, .inr (5, [.int 0, .ref (am 1), .ref (am 2), .ref (am 3), .int (-1), .ref (am 4), .ref (am 5), .ref (am 6), .ref (am 7), .ref (am 8), .ref (am 9), .ref (am 10), .int (-1), .int (-1), .ref (am 11), .ref (am 12), .ref (am 13), .ref (am 14), .ref (am 15)])), (am 1, .inl (cI, 8, .inl (fun _ => 0))), (am 2, .inl (cI, 960, .inl (fun _ => 0))), (am 3, .inl (cS, 14641, .inl (fun _ => 0))), (am 4, .inl (cB, 240, .inl (fun _ => 0))), (am 5, .inl (cB, 240, .inl (fun _ => 0))), (am 6, .inl (cB, 240, .inl (fun _ => 0))), (am 7, .inl (cI, 240, .inl (fun _ => 0))), (am 8, .inl (cB, 242, .inl (fun _ => 0))), (am 9, .inl (cB, 242, .inl (fun _ => 0))), (am 10, .inl (cZ, 242, .inl (fun _ => 0))), (am 11, .inl (cI, 330, .inl (fun _ => 0))), (am 12, .inl (cB, 330, .inl (fun _ => 0))), (am 13, .inl (cB, 330, .inl (fun _ => 0))), (am 14, .inl (cB, 330, .inl (fun _ => 0))), (am 15, .inl (cI, 330, .inl (fun _ => 0)))] : va_W)) hD [16, 0, 1, 2, 3, 4, 5, 6, 7, 8, 9, 10, 11, 12, 13, 14, 15] rfl (by decide)
  refine lv_astore_n (lv' := [(3, .ref q3), (2, .ref (am 0)), (1, .ref (ad 0)), (0, .ref b)]) hx hb dL_law_19 rfl hl (by decide) rfl (fun ls hl => ?_)
  refine lv_iconst (v := nI 0) hx hb dL_law_20 (by decide) ?_
  refine lv_istore (lv' := [(4, .int (nI 0)), (3, .ref q3), (2, .ref (am 0)), (1, .ref (ad 0)), (0, .ref b)]) hx hb dL_law_21 hl (by decide) rfl (fun ls hl => ?_)
  refine W.widen (k := 60 + 4 * 0) (n := 24700 + 24 * 0) (Nat.le_of_ble_eq_true rfl) (Nat.le_of_ble_eq_true rfl) ?_
  exact law_loop hl9 hF hfr hL hend 513 0 rfl (fun _ => 0) (fun _ => fun _ => 0) (fun _ => 0) (fun k => if k < 4 then (-1) else nI 0) (fun _ => 0) (fun _ => fun _ => 0) 0 (-1) (-1) (-1) (fun _ => 0) (fun _ => 0) (fun _ => 0) (fun _ => 0) (fun _ => 0) (fun _ => 0) (fun _ => 0) (fun _ => 0) (fun _ => 0) (fun _ => 0) (fun _ => 0) (fun _ => 0) (fun _ => 0) (fun _ => 0) (fun _ => 0) H locs ls ⟨fun r _ => Nat.zero_le _, fun r _ => nI_0.symm, fun r _ j hj => absurd hj (Nat.not_lt_zero j), rfl, rfl, Or.inl rfl, Or.inl ⟨rfl, rfl⟩⟩ hP hD hS (lv_sub hl [4, 3, 2, 1, 0] rfl)
