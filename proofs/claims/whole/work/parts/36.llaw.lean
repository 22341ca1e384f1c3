/-! ===== THE LAW: what ties the class to the reference ===== -/
def lwS (ar : Nat → Nat → Int32) (mk mf mg mv : Nat → Int32) (st : Int32) : Prop := st = -1 ∨ ∃ n : Nat, n ≤ 240 ∧ st = nI n ∧ (∀ k, k < n → mk k = ar 1 k) ∧ (∀ k, k < n → mf k = ar 2 k) ∧ (∀ k, k < n → mg k = ar 3 k) ∧ (∀ k, k < n → mv k = ar 4 k) ∧ mKi (ar 1) n ∧ plc (ar 1) (nI 1) n ≤ 120 ∧ plc (ar 1) (nI 2) n ≤ 120
def lwE (ar : Nat → Nat → Int32) (va pu ta pl : Nat → Int32) (en cf c4 : Int32) : Prop := (en = -1 ∧ cf = -1) ∨ ∃ n : Nat, n ≤ 330 ∧ en = nI n ∧ cf = c4 ∧ (∀ k, k < n → va k = ar 13 k) ∧ (∀ k, k < n → pu k = ar 14 k) ∧ (∀ k, k < n → ta k = ar 15 k) ∧ (∀ k, k < n → pl k = ar 16 k)
def lwR (ar : Nat → Nat → Int32) (ct : Nat → Int32) (ns : Nat → Nat) (fs : Nat → Nat → Int32) (st en cf : Int32) (sz rr mk mf mg mv va pu ta pl : Nat → Int32) : Prop :=
  (∀ r, r < 8 → ns r ≤ 120) ∧ mSz ns sz ∧ mRw ns fs rr ∧ ct 0 = st ∧ ct 3 = en ∧ lwS ar mk mf mg mv st ∧ lwE ar va pu ta pl en cf (ct 4)
theorem lwS_keep {ar ar' : Nat → Nat → Int32} {mk mf mg mv : Nat → Int32} {st : Int32} (hk : ∀ k, 1 ≤ k → k ≤ 4 → ar' k = ar k) (h : lwS ar mk mf mg mv st) : lwS ar' mk mf mg mv st := by
  unfold lwS
  rw [hk 1 (by decide) (by decide), hk 2 (by decide) (by decide), hk 3 (by decide) (by decide), hk 4 (by decide) (by decide)]
  exact h
theorem lwE_keep {ar ar' : Nat → Nat → Int32} {va pu ta pl : Nat → Int32} {en cf c4 c4' : Int32} (hk : ∀ k, 13 ≤ k → ar' k = ar k) (hc : c4' = c4) (h : lwE ar va pu ta pl en cf c4) : lwE ar' va pu ta pl en cf c4' := by
  unfold lwE
  rw [hk 13 (by decide), hk 14 (by decide), hk 15 (by decide), hk 16 (by decide), hc]
  exact h
theorem up_ns {ns : Nat → Nat} {q n : Nat} (h : ∀ r, r < 8 → ns r ≤ 120) (hn : n ≤ 120) : ∀ r, r < 8 → va_up ns q n r ≤ 120 := by
  intro r hr
  by_cases e : r = q
  · rw [e, va_up_self]; exact hn
  · rw [va_up_ne _ _ e]; exact h r hr
theorem row_eq {x : Int32} {r r' : Nat} (h : x = nI r) (h' : x = nI r') (hr : r < 8) (hr' : r' < 8) : r' = r := (nI_eq (by omega) (by omega)).mp (h'.symm.trans h)
theorem lw_more {L i : Nat} (hL : L ≤ 2048) (hi : i ≤ 4096) (h : ¬ (nI L - nI 4 < nI i)) : i + 4 ≤ L := by
  rcases Nat.lt_or_ge L 4 with z | z
  · exfalso
    apply h
    have h2 : nI L - nI 4 < 0 := by rcases (show L = 0 ∨ L = 1 ∨ L = 2 ∨ L = 3 by omega) with rfl | rfl | rfl | rfl <;> decide
    exact Int32.lt_of_lt_of_le h2 (Int32.not_lt.mp (nI_pos (by omega)))
  · rw [show nI L - nI 4 = nI (L - 4) from pk_sub z] at h
    have h2 : ¬ (L - 4 < i) := fun w => h ((nI_ltI (by omega) (by omega)).mpr w)
    omega
theorem sw15 (x : Int32) : ∃ k : Nat, k < 16 ∧ x &&& nI 15 = nI k := by
  refine ⟨(x &&& nI 15).toBitVec.toNat, ?_, ?_⟩
  · rw [Int32.toBitVec_and, BitVec.toNat_and]
    have h : (nI 15).toBitVec.toNat = 15 := by decide
    rw [h]
    exact Nat.lt_succ_of_le Nat.and_le_right
  · apply Int32.toBitVec_inj.mp
    apply BitVec.eq_of_toNat_eq
    show _ = (BitVec.ofNat 32 (x &&& nI 15).toBitVec.toNat).toNat
    rw [BitVec.toNat_ofNat, Nat.mod_eq_of_lt (BitVec.isLt _)]
theorem sw_bad {y : Int32} {j : Nat} (h : y = nI j) (hj : j < 4) : ¬ (y.toInt < 0 ∨ 3 < y.toInt) := by
  rw [h, nI_toInt (by omega)]
  omega
theorem rec_len {x z z' : Int32} {ns : Nat → Nat} (h : (z = -1 ∧ ∀ r, r < 8 → x ≠ nI r) ∨ ∃ r, r < 8 ∧ x = nI r ∧ z = nI (ns r)) (h' : (z' = -1 ∧ ∀ r, r < 8 → x ≠ nI r) ∨ ∃ r, r < 8 ∧ x = nI r ∧ z' = nI (ns r)) : z = z' := by
  rcases h with ⟨h1, h2⟩ | ⟨r, h1, h2, h3⟩ <;> rcases h' with ⟨g1, g2⟩ | ⟨q, g1, g2, g3⟩
  · rw [h1, g1]
  · exact absurd g2 (h2 q g1)
  · exact absurd h2 (g2 r h1)
  · rw [h3, g3, row_eq h2 g2 h1 g1]
theorem rec_cf {ar : Nat → Nat → Int32} {va pu ta pl : Nat → Int32} {en cf c4 : Int32} (h : lwE ar va pu ta pl en cf c4) : (if en = -1 then -1 else c4) = cf := by
  rcases h with ⟨h1, h2⟩ | ⟨n, h1, h2, h3, -⟩
  · rw [if_pos h1, h2]
  · rw [if_neg (by rw [h2]; exact z_m1 (by omega)), h3]
theorem lw_ct {ct : Nat → Int32} {j : Nat} {v : Int32} (h : ct j = v) : ∃ ct2 : Nat → Int32, ct = (fun k => if k = j then v else ct2 k) := ⟨ct, funext fun k => by
  by_cases z : k = j
  · rw [if_pos z, z]; exact h
  · rw [if_neg z]⟩
theorem z_sld {p : Program} {l : Launch} {e : Env} {R : Room} {s : State} {m : MethodId} {args : Array Value} {below : List Frame} {meth : Method} {c : Code} {H H0 : Heap} {locs : List Loc} {cells slots pc : Nat} {Q : State → Prop} {ls : Array Slot} {rest : List Value} {A : Nat → Prop} {cc : ByteArray} (hexec : p.tables.exec = Jvm.exec) (hb : c.code = cc) {b L k : Nat} {xs : Nat → Int32} (hX : va_X b L xs s H0) (hbl : b < H0.size) (hbA : ¬ A b) (hS : va_S A H0 H locs) (hk : k < L) (hn : L < 2 ^ 31) (hdg : decode cc pc = .ok (.iaload, 1))
    (kk : W p l e R s m args below meth c H locs cells slots Q (F0 m (pc + 1) ls (.int (xs k) :: rest))) : W p l e R s m args below meth c H locs cells slots Q (F0 m pc ls (.int (nI k) :: .ref b :: rest)) := by
  refine va_sld hexec hb hX hbl hbA hS (vp_in_nI hk hn) hdg ?_
  rw [nI_clamp (by omega)]
  exact kk
abbrev rm_L_law : Room := room_1
def lwFix (p : Program) (s : State) (m : MethodId) (args : Array Value) (c : Code) (A : Nat → Prop) (dC : Nat → ClassId) (dI : Nat → Nat → Nat) (cI cJ cR cS cB cZ : ClassId) (b L : Nat) (xs : Nat → Int32) : Prop :=
  p.tables.exec = Jvm.exec ∧ c.code = code ∧ c.maxLocals = 7 ∧ s.vm.findClass RL = some m.cls ∧ (∀ w ∈ zW, w.before args s = true) ∧ (∀ q, s.heap.size ≤ q → A q) ∧ va_K (dC, dI) vwCl (zT cI cJ cR) s ∧ va_K (dC, dI) vwCl (zTm cI cS cB cZ) s ∧ zN zNW s ∧ zTh A s s.heap ∧ zNc s ∧ va_X b L xs s s.heap ∧ b < s.heap.size ∧ ¬ A b
