/-! ===== THE LAW: what ties the class to the reference ===== -/
def lwS (ar : Nat → Nat → Int32) (mk mf mg mv : Nat → Int32) (st : Int32) : Prop := st = -1 ∨ ∃ n : Nat, n ≤ 240 ∧ st = nI n ∧ (∀ k, k < n → mk k = ar 1 k) ∧ (∀ k, k < n → mf k = ar 2 k) ∧ (∀ k, k < n → mg k = ar 3 k) ∧ (∀ k, k < n → mv k = ar 4 k) ∧ mKi (ar 1) n ∧ plc (ar 1) (nI 1) n ≤ 120 ∧ plc (ar 1) (nI 2) n ≤ 120
def lwE (ar : Nat → Nat → Int32) (va pu ta pl : Nat → Int32) (en cf c4 : Int32) : Prop := (en = -1 ∧ cf = -1) ∨ ∃ n : Nat, n ≤ 330 ∧ en = nI n ∧ cf = c4 ∧ (∀ k, k < n → va k = ar 13 k) ∧ (∀ k, k < n → pu k = ar 14 k) ∧ (∀ k, k < n → ta k = ar 15 k) ∧ (∀ k, k < n → pl k = ar 16 k)
def lwR (ar : Nat → Nat → Int32) (ct : Nat → Int32) (ns : Nat → Nat) (fs : Nat → Nat → Int32) (st en cf : Int32) (sz rr mk mf mg mv va pu ta pl : Nat → Int32) : Prop :=
  (∀ r, r < 8 → ns r ≤ 120) ∧ mSz ns sz ∧ mRw ns fs rr ∧ ct 0 = st ∧ ct 3 = en ∧ lwS ar mk mf mg mv st ∧ lwE ar va pu ta pl en cf (ct 4)
theorem lwS_keep {ar ar' : Nat → Nat → Int32} {mk mf mg mv : Nat → Int32} {st : Int32} (hk : ∀ k, 1 ≤ k → k ≤ 4 → ar' k = ar k) (h : lwS ar mk mf mg mv st) : lwS ar' mk mf mg mv st := by
  unfold lwS
  rw [hk 1 (by decide) (by decide), hk 2 (by decide) (by decide), hk 3 (by decide) (by decide), hk 4 (by decide) (by decide)]
  exact h
theorem lwE_keep {ar ar' : Nat → Nat → Int32} {va pu ta pl : Nat → Int32} {en cf c4 c4' : Int32} (hk : ∀ k, 13 ≤ k → ar' k = ar k) (hc : c4' = c4) (h : lwE ar va pu ta pl en cf c4) : lwE ar' va pu ta pl en cf c4' := by
  unfold lwE
  rw [hk 13 (by decide), hk 14 (by decide), hk 15 (by decide), hk 16 (by decide), hc]
  exact h
theorem up_ns {ns : Nat → Nat} {q n : Nat} (h : ∀ r, r < 8 → ns r ≤ 120) (hn : n ≤ 120) : ∀ r, r < 8 → va_up ns q n r ≤ 120 := by
  intro r hr
  by_cases e : r = q
  · rw [e, va_up_self]; exact hn
  · rw [va_up_ne _ _ e]; exact h r hr
theorem row_eq {x : Int32} {r r' : Nat} (h : x = nI r) (h' : x = nI r') (hr : r < 8) (hr' : r' < 8) : r' = r := (nI_eq (by omega) (by omega)).mp (h'.symm.trans h)
theorem lw_more {L i : Nat} (hL : L ≤ 2048) (hi : i ≤ 4096) (h : ¬ (nI L - nI 4 < nI i)) : i + 4 ≤ L := by
  rcases Nat.lt_or_ge L 4 with z | z
  · exfalso
    apply h
    have h2 : nI L - nI 4 < 0 := by rcases (show L = 0 ∨ L = 1 ∨ L = 2 ∨ L = 3 by omega) with rfl | rfl | rfl | rfl <;> decide
    exact Int32.lt_of_lt_of_le h2 (Int32.not_lt.mp (nI_pos (by omega)))
  · rw [show nI L - nI 4 = nI (L - 4) from pk_sub z] at h
    have h2 : ¬ (L - 4 < i) := fun w => h ((nI_ltI (by omega) (by omega)).mpr w)
    omega
theorem sw15 (x : Int32) : ∃ k : Nat, k < 16 ∧ x &&& nI 15 = nI k := by
  refine ⟨(x &&& nI 15).toBitVec.toNat, ?_, ?_⟩
  · rw [Int32.toBitVec_and, BitVec.toNat_and]
    have h : (nI 15).toBitVec.toNat = 15 := by decide
    rw [h]
    exact Nat.lt_succ_of_le Nat.and_le_right
  · apply Int32.toBitVec_inj.mp
    apply BitVec.eq_of_toNat_eq
    show _ = (BitVec.ofNat 32 (x &&& nI 15).toBitVec.toNat).toNat
    rw [BitVec.toNat_ofNat, Nat.mod_eq_of_lt (BitVec.isLt _)]
theorem sw_bad {y : Int32} {j : Nat} (h : y = nI j) (hj : j < 4) : ¬ (y.toInt < 0 ∨ 3 < y.toInt) := by
  rw [h, nI_toInt (by omega)]
  omega
theorem rec_len {x z z' : Int32} {ns : Nat → Nat} (h : (z = -1 ∧ ∀ r, r < 8 → x ≠ nI r) ∨ ∃ r, r < 8 ∧ x = nI r ∧ z = nI (ns r)) (h' : (z' = -1 ∧ ∀ r, r < 8 → x ≠ nI r) ∨ ∃ r, r < 8 ∧ x = nI r ∧ z' = nI (ns r)) : z = z' := by
  rcases h with ⟨h1, h2⟩ | ⟨r, h1, h2, h3⟩ <;> rcases h' with ⟨g1, g2⟩ | ⟨q, g1, g2, g3⟩
  · rw [h1, g1]
  · exact absurd g2 (h2 q g1)
  · exact absurd h2 (g2 r h1)
  · rw [h3, g3, row_eq h2 g2 h1 g1]
theorem rec_cf {ar : Nat → Nat → Int32} {va pu ta pl : Nat → Int32} {en cf c4 : Int32} (h : lwE ar va pu ta pl en cf c4) : (if en = -1 then -1 else c4) = cf := by
  rcases h with ⟨h1, h2⟩ | ⟨n, h1, h2, h3, -⟩
  · rw [if_pos h1, h2]
  · rw [if_neg (by rw [h2]; exact z_m1 (by omega)), h3]
theorem lw_ct {ct : Nat → Int32} {j : Nat} {v : Int32} (h : ct j = v) : ∃ ct2 : Nat → Int32, ct = (fun k => if k = j then v else ct2 k) := ⟨ct, funext fun k => by
  by_cases z : k = j
  · rw [if_pos z, z]; exact h
  · rw [if_neg z]⟩
theorem z_sld {p : Program} {l : Launch} {e : Env} {R : Room} {s : State} {m : MethodId} {args : Array Value} {below : List Frame} {meth : Method} {c : Code} {H H0 : Heap} {locs : List Loc} {cells slots pc : Nat} {Q : State → Prop} {ls : Array Slot} {rest : List Value} {A : Nat → Prop} {cc : ByteArray} (hexec : p.tables.exec = Jvm.exec) (hb : c.code = cc) {b L k : Nat} {xs : Nat → Int32} (hX : va_X b L xs s H0) (hbl : b < H0.size) (hbA : ¬ A b) (hS : va_S A H0 H locs) (hk : k < L) (hn : L < 2 ^ 31) (hdg : decode cc pc = .ok (.iaload, 1))
    (kk : W p l e R s m args below meth c H locs cells slots Q (F0 m (pc + 1) ls (.int (xs k) :: rest))) : W p l e R s m args below meth c H locs cells slots Q (F0 m pc ls (.int (nI k) :: .ref b :: rest)) := by
  refine va_sld hexec hb hX hbl hbA hS (vp_in_nI hk hn) hdg ?_
  rw [nI_clamp (by omega)]
  exact kk
abbrev rm_L_law : Room := room_1
def lwFix (p : Program) (s : State) (m : MethodId) (args : Array Value) (c : Code) (A : Nat → Prop) (dC : Nat → ClassId) (dI : Nat → Nat → Nat) (cI cJ cR cS cB cZ : ClassId) (b L : Nat) (xs : Nat → Int32) : Prop :=
  p.tables.exec = Jvm.exec ∧ c.code = code ∧ c.maxLocals = 7 ∧ s.vm.findClass RL = some m.cls ∧ (∀ w ∈ zW, w.before args s = true) ∧ (∀ q, s.heap.size ≤ q → A q) ∧ va_K (dC, dI) vwCl (zT cI cJ cR) s ∧ va_K (dC, dI) vwCl (zTm cI cS cB cZ) s ∧ zN zNW s ∧ zTh A s s.heap ∧ zNc s ∧ va_X b L xs s s.heap ∧ b < s.heap.size ∧ ¬ A b
abbrev ctN (P : Nat → Bool) (n : Nat) : Nat := ct P n
theorem rec_num {x y z z' : Int32} {ns : Nat → Nat} {fs : Nat → Nat → Int32} (hns : ∀ r, r < 8 → ns r ≤ 120) (h : ∃ r k, r < 8 ∧ x = nI r ∧ k < ns r ∧ y = nI k ∧ z = fs r k) (h' : ∃ r k, r < 8 ∧ x = nI r ∧ k < ns r ∧ y = nI k ∧ z' = fs r k) : z = z' := by
  obtain ⟨r, k, h1, h2, h3, h4, h5⟩ := h
  obtain ⟨q, j, g1, g2, g3, g4, g5⟩ := h'
  obtain rfl := row_eq h2 g2 h1 g1
  have := hns q h1
  have e : k = j := (nI_eq (by omega) (by omega)).mp (h4.symm.trans g4)
  rw [h5, g5, e]
theorem rec_step {x y z z' : Int32} {n : Nat} {f : Nat → Nat → Int32} (hn : n ≤ 400) (h : ∃ k j, k < n ∧ x = nI k ∧ j < 4 ∧ y = nI j ∧ z = f j k) (h' : ∃ k j, k < n ∧ x = nI k ∧ j < 4 ∧ y = nI j ∧ z' = f j k) : z = z' := by
  obtain ⟨k, j, h1, h2, h3, h4, h5⟩ := h
  obtain ⟨k', j', g1, g2, g3, g4, g5⟩ := h'
  have e : k = k' := (nI_eq (by omega) (by omega)).mp (h2.symm.trans g2)
  have e2 : j = j' := (nI_eq (by omega) (by omega)).mp (h4.symm.trans g4)
  rw [h5, g5, e, e2]
theorem at_step {x y z : Int32} {n : Nat} {f : Nat → Nat → Int32} (h : ∃ k j, k < n ∧ x = nI k ∧ j < 4 ∧ y = nI j ∧ z = f j k) : zAt x n := by
  obtain ⟨k, j, h1, h2, h3⟩ := h
  exact ⟨k, h1, h2⟩
theorem ok_step {x y z : Int32} {n : Nat} {f : Nat → Nat → Int32} (h : ∃ k j, k < n ∧ x = nI k ∧ j < 4 ∧ y = nI j ∧ z = f j k) : ¬ (y.toInt < 0 ∨ 3 < y.toInt) := by
  obtain ⟨k, j, h1, h2, h3, h4, h5⟩ := h
  exact sw_bad h4 h3
theorem hnk_mono {K : Nat → Int32} {i k : Nat} (h : i ≤ k) : hnk K i ≤ hnk K k := by
  induction k with
  | zero => rw [show i = 0 by omega]; exact Nat.le_refl _
  | succ k ih =>
    rcases Nat.lt_or_ge i (k + 1) with z | z
    · have := ih (by omega)
      by_cases h2 : opn K k
      · rw [hnk_yes h2]; omega
      · rw [hnk_no h2]; omega
    · rw [show i = k + 1 by omega]; exact Nat.le_refl _
theorem hnk_inj {K : Nat → Int32} {i k : Nat} (hi : opn K i) (hk : opn K k) (h : hnk K i = hnk K k) : i = k := by
  rcases Nat.lt_trichotomy i k with e | e | e
  · have := hnk_mono (K := K) (show i + 1 ≤ k from e)
    rw [hnk_yes hi] at this
    omega
  · exact e
  · have := hnk_mono (K := K) (show k + 1 ≤ i from e)
    rw [hnk_yes hk] at this
    omega
theorem rec_hunk {x y z z' : Int32} {n : Nat} {K F G : Nat → Int32} {C D : Nat → Nat} (hn : n ≤ 240)
    (h : ∃ k, k < n ∧ opn K k ∧ x = nI (hnk K k) ∧ ((y = nI 0 ∧ z = F k) ∨ (y = nI 1 ∧ z = G k) ∨ (y = nI 2 ∧ z = nI (C k)) ∨ (y = nI 3 ∧ z = nI (D k))))
    (h' : ∃ k, k < n ∧ opn K k ∧ x = nI (hnk K k) ∧ ((y = nI 0 ∧ z' = F k) ∨ (y = nI 1 ∧ z' = G k) ∨ (y = nI 2 ∧ z' = nI (C k)) ∨ (y = nI 3 ∧ z' = nI (D k)))) : z = z' := by
  obtain ⟨k, h1, h2, h3, h4⟩ := h
  obtain ⟨k', g1, g2, g3, g4⟩ := h'
  have b1 := hnk_le (K := K) k
  have b2 := hnk_le (K := K) k'
  have e : k = k' := hnk_inj h2 g2 ((nI_eq (by omega) (by omega)).mp (h3.symm.trans g3))
  subst e
  rcases h4 with ⟨e1, e2⟩ | ⟨e1, e2⟩ | ⟨e1, e2⟩ | ⟨e1, e2⟩ <;> rcases g4 with ⟨f1, f2⟩ | ⟨f1, f2⟩ | ⟨f1, f2⟩ | ⟨f1, f2⟩ <;>
    first | (rw [e2, f2]; done) | exact absurd (e1.symm.trans f1) (by decide)
theorem ok_hunk {x y z : Int32} {n : Nat} {K F G : Nat → Int32} {C D : Nat → Nat} (h : ∃ k, k < n ∧ opn K k ∧ x = nI (hnk K k) ∧ ((y = nI 0 ∧ z = F k) ∨ (y = nI 1 ∧ z = G k) ∨ (y = nI 2 ∧ z = nI (C k)) ∨ (y = nI 3 ∧ z = nI (D k)))) : (∃ k, k < n ∧ opn K k ∧ x = nI (hnk K k)) ∧ ¬ (y.toInt < 0 ∨ 3 < y.toInt) := by
  obtain ⟨k, h1, h2, h3, h4⟩ := h
  refine ⟨⟨k, h1, h2, h3⟩, ?_⟩
  rcases h4 with ⟨e1, _⟩ | ⟨e1, _⟩ | ⟨e1, _⟩ | ⟨e1, _⟩ <;> exact sw_bad e1 (by decide)
theorem lwS_of {F G : Nat → Int32} {na nb n : Nat} {ar : Nat → Nat → Int32} {mk mf mg mv : Nat → Int32} (hn : n ≤ 240) (hna : na ≤ 120) (hnb : nb ≤ 120) (he : ps F G na nb n = (na, nb)) (h : agr F G na nb (ar 1) (ar 2) (ar 3) (ar 4) n) (g : agr F G na nb mk mf mg mv n) : lwS ar mk mf mg mv (nI n) := by
  obtain ⟨p1, p2, p3⟩ := agr_end h he
  exact Or.inr ⟨n, hn, rfl, fun k hk => (g k hk).1.trans (h k hk).1.symm, fun k hk => (g k hk).2.1.trans (h k hk).2.1.symm, fun k hk => (g k hk).2.2.1.trans (h k hk).2.2.1.symm, fun k hk => (g k hk).2.2.2.trans (h k hk).2.2.2.symm, agr_ki h, by rw [p2]; exact hnb, by rw [p1]; exact hna⟩
theorem lwE_of {ar : Nat → Nat → Int32} {va pu ta pl : Nat → Int32} {L : List Ent} {cf c4 : Int32} (hl : L.length ≤ 330) (hc : cf = c4) (h : eAg (ar 13) (ar 14) (ar 15) (ar 16) L) (g : eAg va pu ta pl L) : lwE ar va pu ta pl (nI L.length) cf c4 := by
  have key : ∀ k, k < L.length → va k = ar 13 k ∧ pu k = ar 14 k ∧ ta k = ar 15 k ∧ pl k = ar 16 k := by
    intro k hk
    have e : L[k]? = some L[k] := List.getElem?_eq_getElem hk
    obtain ⟨h1, h2, h3, h4⟩ := h k _ e
    obtain ⟨g1, g2, g3, g4⟩ := g k _ e
    exact ⟨g1.trans h1.symm, g2.trans h2.symm, g3.trans h3.symm, g4.trans h4.symm⟩
  exact Or.inr ⟨L.length, hl, rfl, hc, fun k hk => (key k hk).1, fun k hk => (key k hk).2.1, fun k hk => (key k hk).2.2.1, fun k hk => (key k hk).2.2.2⟩
