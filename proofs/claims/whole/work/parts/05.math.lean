/-! ===== MATHS: the least cost, the script ===== -/
/-- least cost with x places left of F (of na) and y places left of G (of nb) -/
def dR (F G : Nat → Int32) (na nb : Nat) : Nat → Nat → Nat
  | 0 => fun y => y
  | x + 1 => fun y => Nat.rec (motive := fun _ => Nat) (x + 1) (fun y' r => if F (na - (x + 1)) = G (nb - (y' + 1)) then dR F G na nb x y' else 1 + min (dR F G na nb x (y' + 1)) r) y
theorem dR_0 {F G : Nat → Int32} {na nb y : Nat} : dR F G na nb 0 y = y := rfl
theorem dR_x0 {F G : Nat → Int32} {na nb x : Nat} : dR F G na nb x 0 = x := by cases x <;> rfl
theorem dR_s {F G : Nat → Int32} {na nb x y : Nat} : dR F G na nb (x + 1) (y + 1) = if F (na - (x + 1)) = G (nb - (y + 1)) then dR F G na nb x y else 1 + min (dR F G na nb x (y + 1)) (dR F G na nb (x + 1) y) := rfl
/-- the least cost from i and j on -/
def dc (F G : Nat → Int32) (na nb i j : Nat) : Nat := dR F G na nb (na - i) (nb - j)
theorem dc_na {F G : Nat → Int32} {na nb j : Nat} : dc F G na nb na j = nb - j := by unfold dc; rw [Nat.sub_self]; rfl
theorem dc_nb {F G : Nat → Int32} {na nb i : Nat} : dc F G na nb i nb = na - i := by unfold dc; rw [Nat.sub_self]; exact dR_x0
theorem dc_s {F G : Nat → Int32} {na nb i j : Nat} (hi : i < na) (hj : j < nb) : dc F G na nb i j = if F i = G j then dc F G na nb (i + 1) (j + 1) else 1 + min (dc F G na nb (i + 1) j) (dc F G na nb i (j + 1)) := by
  unfold dc
  rw [show na - i = (na - (i + 1)) + 1 by omega, show nb - j = (nb - (j + 1)) + 1 by omega, dR_s, show na - (na - (i + 1) + 1) = i by omega, show nb - (nb - (j + 1) + 1) = j by omega]
theorem dR_le {F G : Nat → Int32} {na nb : Nat} : ∀ x y, dR F G na nb x y ≤ x + y := by
  intro x
  induction x with
  | zero => intro y; rw [dR_0]; omega
  | succ x ih =>
    intro y
    induction y with
    | zero => rw [dR_x0]; omega
    | succ y ih2 =>
      rw [dR_s]
      have h1 := ih y
      have h2 := ih (y + 1)
      split <;> omega
theorem dc_le {F G : Nat → Int32} {na nb i j : Nat} : dc F G na nb i j ≤ na + nb := by
  have := dR_le (F := F) (G := G) (na := na) (nb := nb) (na - i) (nb - j)
  unfold dc
  omega
/-- the kind of the step at i and j: 0 keep, 1 erase, 2 insert -/
def kd (F G : Nat → Int32) (na nb i j : Nat) : Nat := if i < na ∧ j < nb ∧ F i = G j then 0 else if i < na ∧ (nb ≤ j ∨ dc F G na nb (i + 1) j ≤ dc F G na nb i (j + 1)) then 1 else 2
/-- i and j before step k -/
def ps (F G : Nat → Int32) (na nb : Nat) : Nat → Nat × Nat
  | 0 => (0, 0)
  | k + 1 => let q := ps F G na nb k; let t := kd F G na nb q.1 q.2; (if t = 2 then q.1 else q.1 + 1, if t = 1 then q.2 else q.2 + 1)
/-- the number of step k -/
def vl (F G : Nat → Int32) (na nb k : Nat) : Int32 := if kd F G na nb (ps F G na nb k).1 (ps F G na nb k).2 = 2 then G (ps F G na nb k).2 else F (ps F G na nb k).1
/-- bits of the marks -/
def zb (eb : Nat → Int64) (i j : Nat) : Bool := (eb (i * 2 + j / 64)).toBitVec.getLsbD (j % 64)
theorem zb_one : ∀ k, k < 64 → ((1 : Int64) <<< ((nI k).toInt64 &&& 63)).toBitVec = BitVec.twoPow 64 k := by decide +kernel
theorem zb_set {eb : Nat → Int64} {i j : Nat} {b : Int64} (hb : b.toBitVec = BitVec.twoPow 64 (j % 64)) {i' j' : Nat} (hj : j < 128) (hj' : j' < 128) :
    zb (vp_updL eb (i * 2 + j / 64) (eb (i * 2 + j / 64) ||| b)) i' j' = if i' = i ∧ j' = j then true else zb eb i' j' := by
  unfold zb vp_updL
  have h2 : j' % 64 < 64 := Nat.mod_lt _ (by decide)
  by_cases e : i' * 2 + j' / 64 = i * 2 + j / 64
  · rw [if_pos e, Int64.toBitVec_or, BitVec.getLsbD_or, hb, BitVec.getLsbD_twoPow, ← e]
    by_cases e2 : i' = i ∧ j' = j
    · rw [if_pos e2, e2.2]; simp [h2, Nat.mod_lt]
    · rw [if_neg e2]
      have h3 : ¬ (j % 64 = j' % 64) := fun h => e2 (by omega)
      simp [h3]
  · rw [if_neg e, if_neg (fun h => e (by rw [h.1, h.2]))]
theorem zb_clear {eb : Nat → Int64} {i j : Nat} {b : Int64} (hb : b.toBitVec = BitVec.twoPow 64 (j % 64)) {i' j' : Nat} (hj : j < 128) (hj' : j' < 128) :
    zb (vp_updL eb (i * 2 + j / 64) (eb (i * 2 + j / 64) &&& (b ^^^ (-1)))) i' j' = if i' = i ∧ j' = j then false else zb eb i' j' := by
  unfold zb vp_updL
  have h2 : j' % 64 < 64 := Nat.mod_lt _ (by decide)
  have ha : (-1 : Int64).toBitVec = BitVec.allOnes 64 := by decide
  by_cases e : i' * 2 + j' / 64 = i * 2 + j / 64
  · rw [if_pos e, Int64.toBitVec_and, BitVec.getLsbD_and, Int64.toBitVec_xor, BitVec.getLsbD_xor, ha, hb, BitVec.getLsbD_twoPow, BitVec.getLsbD_allOnes, ← e]
    by_cases e2 : i' = i ∧ j' = j
    · rw [if_pos e2, e2.2]; simp [h2, Nat.mod_lt]
    · rw [if_neg e2]
      have h3 : ¬ (j % 64 = j' % 64) := fun h => e2 (by omega)
      simp [h3, h2]
  · rw [if_neg e, if_neg (fun h => e (by rw [h.1, h.2]))]
theorem zb_test {w b : Int64} {k : Nat} (hk : k < 64) (hb : b.toBitVec = BitVec.twoPow 64 k) : (w &&& b) = 0 ↔ w.toBitVec.getLsbD k = false := by
  rw [← Int64.toBitVec_inj, Int64.toBitVec_and, hb]
  constructor
  · intro h
    have t := congrArg (fun x => x.getLsbD k) h
    simp only [BitVec.getLsbD_and, BitVec.getLsbD_twoPow] at t
    simpa [hk] using t
  · intro h
    apply BitVec.eq_of_getLsbD_eq
    intro i hi
    rw [BitVec.getLsbD_and, BitVec.getLsbD_twoPow]
    by_cases e : k = i
    · subst e; simp [h]
    · simp [e]
/-- step k opens a hunk -/
abbrev opn (K : Nat → Int32) (k : Nat) : Prop := K k ≠ 0 ∧ (k = 0 ∨ K (k - 1) = 0)
/-- how many hunks open before step n -/
def hnk (K : Nat → Int32) : Nat → Nat
  | 0 => 0
  | n + 1 => if opn K n then hnk K n + 1 else hnk K n
theorem hnk_yes {K : Nat → Int32} {k : Nat} (h : opn K k) : hnk K (k + 1) = hnk K k + 1 := if_pos h
theorem hnk_no {K : Nat → Int32} {k : Nat} (h : ¬ opn K k) : hnk K (k + 1) = hnk K k := if_neg h
theorem hnk_le {K : Nat → Int32} : ∀ k, hnk K k ≤ k := by
  intro k
  induction k with
  | zero => exact Nat.le_refl 0
  | succ k ih =>
    by_cases h : opn K k
    · rw [hnk_yes h]; omega
    · rw [hnk_no h]; omega
/-- how many steps of the kind x a hunk has from step k on, d steps looked at -/
def cin (K : Nat → Int32) (n : Nat) (x : Int32) : Nat → Nat → Nat
  | 0, _ => 0
  | d + 1, k => if n ≤ k ∨ K k = 0 then 0 else (if K k = x then 1 else 0) + cin K n x d (k + 1)
theorem cin_end {K : Nat → Int32} {n d k : Nat} {x : Int32} (h : n ≤ k ∨ K k = 0) : cin K n x (d + 1) k = 0 := if_pos h
theorem cin_no {K : Nat → Int32} {n d k : Nat} {x : Int32} (h : ¬ K k = 0) (h2 : ¬ K k = x) (h3 : k < n) : cin K n x (d + 1) k = cin K n x d (k + 1) := by
  show (if n ≤ k ∨ K k = 0 then 0 else (if K k = x then 1 else 0) + cin K n x d (k + 1)) = _
  rw [if_neg (by rintro (z | z); omega; exact h z), if_neg h2, Nat.zero_add]
theorem cin_yes {K : Nat → Int32} {n d k : Nat} {x : Int32} (h : ¬ K k = 0) (h2 : K k = x) (h3 : k < n) : cin K n x (d + 1) k = 1 + cin K n x d (k + 1) := by
  show (if n ≤ k ∨ K k = 0 then 0 else (if K k = x then 1 else 0) + cin K n x d (k + 1)) = _
  rw [if_neg (by rintro (z | z); omega; exact h z), if_pos h2]
/-- how many steps before step n aren't of the kind x -/
def plc (K : Nat → Int32) (x : Int32) : Nat → Nat
  | 0 => 0
  | n + 1 => if K n = x then plc K x n else plc K x n + 1
theorem plc_no {K : Nat → Int32} {x : Int32} {k : Nat} (h : K k = x) : plc K x (k + 1) = plc K x k := if_pos h
theorem plc_yes {K : Nat → Int32} {x : Int32} {k : Nat} (h : ¬ K k = x) : plc K x (k + 1) = plc K x k + 1 := if_neg h
theorem plc_le {K : Nat → Int32} {x : Int32} : ∀ k, plc K x k ≤ k := by
  intro k
  induction k with
  | zero => exact Nat.le_refl 0
  | succ k ih =>
    by_cases h : K k = x
    · rw [plc_no h]; omega
    · rw [plc_yes h]; omega
theorem plc_mono {K : Nat → Int32} {x : Int32} {i k : Nat} (h : i ≤ k) : plc K x i ≤ plc K x k := by
  induction k with
  | zero => rw [show i = 0 by omega]; exact Nat.le_refl _
  | succ k ih =>
    rcases Nat.lt_or_ge i (k + 1) with z | z
    · have := ih (by omega)
      by_cases h2 : K k = x
      · rw [plc_no h2]; omega
      · rw [plc_yes h2]; omega
    · rw [show i = k + 1 by omega]; exact Nat.le_refl _
theorem plc_lt {K : Nat → Int32} {x : Int32} {i k : Nat} (h : i < k) (hi : ¬ K i = x) : plc K x i < plc K x k := by
  have h1 := plc_mono (K := K) (x := x) (show i + 1 ≤ k from h)
  rw [plc_yes hi] at h1
  omega
theorem plc_put {K V g : Nat → Int32} {x : Int32} {k : Nat} (hk : ¬ K k = x) (ha : ∀ i, i < k → K i ≠ x → g (plc K x i) = V i) : ∀ i, i < k + 1 → K i ≠ x → upd g (plc K x k) (V k) (plc K x i) = V i := by
  intro i hi h
  rcases Nat.lt_succ_iff_lt_or_eq.mp hi with z | z
  · rw [pk_un (Nat.ne_of_lt (plc_lt z h))]; exact ha i z h
  · subst z; exact pk_us
theorem z_dec (x : Int32) : x + Int32.ofInt (-1) = x - nI 1 := by
  rw [Int32.sub_eq_add_neg, show -(nI 1) = Int32.ofInt (-1) by decide]
theorem z_min {a b : Nat} (ha : a < 2 ^ 31) (hb : b < 2 ^ 31) : (if nI b < nI a then nI b else nI a) = nI (min a b) := by
  by_cases h : b < a
  · rw [if_pos (nI_lt h ha), Nat.min_eq_right (by omega)]
  · rw [if_neg (nI_nlt (by omega) hb), Nat.min_eq_left (by omega)]
theorem z_cmp0 {x : Int64} : lg_cmp x 0 = 0 ↔ x = 0 := lg_cmp_eq x 0
theorem zb_step {b2 b1 b0 : Bool} {p : Nat → Bool} {x : Bool} {i i' j' d nb : Nat} (h2 : b2 = if i' = i ∧ j' = d then x else b1) (h1 : b1 = if i' = i ∧ d + 1 ≤ j' ∧ j' < nb then p j' else b0) (hd : d < nb) (hx : x = p d) : b2 = if i' = i ∧ d ≤ j' ∧ j' < nb then p j' else b0 := by
  rw [h2]
  by_cases e1 : i' = i ∧ j' = d
  · rw [if_pos e1, if_pos ⟨e1.1, by omega, by omega⟩, hx, e1.2]
  · rw [if_neg e1, h1]
    by_cases e2 : i' = i ∧ d + 1 ≤ j' ∧ j' < nb
    · rw [if_pos e2, if_pos ⟨e2.1, by omega, e2.2.2⟩]
    · rw [if_neg e2, if_neg (fun z => e2 ⟨z.1, by have h9 : j' ≠ d := fun w => e1 ⟨z.1, w⟩; omega, z.2.2⟩)]
theorem up_hi {r q : Nat → Int32} {d nb : Nat} {v : Int32} (h : ∀ j, d + 1 ≤ j → j ≤ nb → r j = q j) (hv : v = q d) : ∀ j, d ≤ j → j ≤ nb → upd r d v j = q j := by
  intro j h1 h2
  by_cases e : j = d
  · rw [e, pk_us, hv]
  · rw [pk_un e]; exact h j (by omega) h2
theorem up_lo {r q : Nat → Int32} {d : Nat} {v : Int32} (h : ∀ j, j < d + 1 → r j = q j) : ∀ j, j < d → upd r d v j = q j := by
  intro j h1
  rw [pk_un (by omega)]
  exact h j (by omega)
theorem ps_s {F G : Nat → Int32} {na nb k : Nat} : ps F G na nb (k + 1) = (if kd F G na nb (ps F G na nb k).1 (ps F G na nb k).2 = 2 then (ps F G na nb k).1 else (ps F G na nb k).1 + 1, if kd F G na nb (ps F G na nb k).1 (ps F G na nb k).2 = 1 then (ps F G na nb k).2 else (ps F G na nb k).2 + 1) := rfl
theorem kd_0 {F G : Nat → Int32} {na nb i j : Nat} (hi : i < na) (hj : j < nb) (h : F i = G j) : kd F G na nb i j = 0 := if_pos ⟨hi, hj, h⟩
theorem kd_1 {F G : Nat → Int32} {na nb i j : Nat} (hi : i < na) (hn : ¬ (j < nb ∧ F i = G j)) (h : nb ≤ j ∨ dc F G na nb (i + 1) j ≤ dc F G na nb i (j + 1)) : kd F G na nb i j = 1 := by
  unfold kd
  rw [if_neg (fun z => hn z.2), if_pos ⟨hi, h⟩]
theorem kd_2a {F G : Nat → Int32} {na nb i j : Nat} (hi : ¬ i < na) : kd F G na nb i j = 2 := by
  unfold kd
  rw [if_neg (fun z => hi z.1), if_neg (fun z => hi z.1)]
theorem kd_2b {F G : Nat → Int32} {na nb i j : Nat} (hj : j < nb) (hn : ¬ (j < nb ∧ F i = G j)) (hm : ¬ dc F G na nb (i + 1) j ≤ dc F G na nb i (j + 1)) : kd F G na nb i j = 2 := by
  unfold kd
  rw [if_neg (fun z => hn z.2), if_neg (fun z => by rcases z.2 with w | w; omega; exact hm w)]
theorem vl_0 {F G : Nat → Int32} {na nb k t : Nat} (h : kd F G na nb (ps F G na nb k).1 (ps F G na nb k).2 = t) (ht : t ≠ 2 := by decide) : vl F G na nb k = F (ps F G na nb k).1 := by
  unfold vl
  rw [h, if_neg ht]
theorem vl_2 {F G : Nat → Int32} {na nb k : Nat} (h : kd F G na nb (ps F G na nb k).1 (ps F G na nb k).2 = 2) : vl F G na nb k = G (ps F G na nb k).2 := by
  unfold vl
  rw [h, if_pos rfl]
/-- the arrays of a script hold its first n steps -/
def agr (F G : Nat → Int32) (na nb : Nat) (K1 F1 G1 V1 : Nat → Int32) (n : Nat) : Prop := ∀ k, k < n → K1 k = nI (kd F G na nb (ps F G na nb k).1 (ps F G na nb k).2) ∧ F1 k = nI (ps F G na nb k).1 ∧ G1 k = nI (ps F G na nb k).2 ∧ V1 k = vl F G na nb k
theorem ag_s {F G K1 F1 G1 V1 : Nat → Int32} {na nb k t i j : Nat} {v : Int32} (h : agr F G na nb K1 F1 G1 V1 k) (hkd : kd F G na nb (ps F G na nb k).1 (ps F G na nb k).2 = t) (hps : ps F G na nb k = (i, j)) (hv : vl F G na nb k = v) : agr F G na nb (upd K1 k (nI t)) (upd F1 k (nI i)) (upd G1 k (nI j)) (upd V1 k v) (k + 1) := by
  intro q hq
  by_cases e : q = k
  · rw [e, pk_us, pk_us, pk_us, pk_us, hkd, hps, hv]
    exact ⟨rfl, rfl, rfl, rfl⟩
  · rw [pk_un e, pk_un e, pk_un e, pk_un e]
    exact h q (by omega)
/-- how many k below n have P -/
def ct (P : Nat → Bool) : Nat → Nat
  | 0 => 0
  | n + 1 => if P n = true then ct P n + 1 else ct P n
theorem ct_yes {P : Nat → Bool} {k : Nat} (h : P k = true) : ct P (k + 1) = ct P k + 1 := if_pos h
theorem ct_no {P : Nat → Bool} {k : Nat} (h : ¬ P k = true) : ct P (k + 1) = ct P k := if_neg h
theorem ct_le {P : Nat → Bool} : ∀ k, ct P k ≤ k := by
  intro k
  induction k with
  | zero => exact Nat.le_refl 0
  | succ k ih =>
    by_cases h : P k = true
    · rw [ct_yes h]; omega
    · rw [ct_no h]; omega
theorem ct_mono {P : Nat → Bool} {i k : Nat} (h : i ≤ k) : ct P i ≤ ct P k := by
  induction k with
  | zero => rw [show i = 0 by omega]; exact Nat.le_refl _
  | succ k ih =>
    rcases Nat.lt_or_ge i (k + 1) with z | z
    · have := ih (by omega)
      by_cases h2 : P k = true
      · rw [ct_yes h2]; omega
      · rw [ct_no h2]; omega
    · rw [show i = k + 1 by omega]; exact Nat.le_refl _
theorem ct_lt {P : Nat → Bool} {i k : Nat} (h : i < k) (hi : P i = true) : ct P i < ct P k := by
  have h1 := ct_mono (P := P) (show i + 1 ≤ k from h)
  rw [ct_yes hi] at h1
  omega
theorem ct_put {P : Nat → Bool} {V g : Nat → Int32} {k : Nat} (hk : P k = true) (ha : ∀ i, i < k → P i = true → g (ct P i) = V i) : ∀ i, i < k + 1 → P i = true → upd g (ct P k) (V k) (ct P i) = V i := by
  intro i hi h
  rcases Nat.lt_succ_iff_lt_or_eq.mp hi with z | z
  · rw [pk_un (Nat.ne_of_lt (ct_lt z h))]; exact ha i z h
  · subst z; exact pk_us
/-- entry k is seen with the sides x -/
def sn (I E : Nat → Int32) (x : Int32) (k : Nat) : Bool := (decide (I k = 0) || decide (I k &&& x ≠ 0)) && decide (E k &&& x = 0)
/-- the entries of a merge, and the arrays that hold them -/
abbrev Ent : Type := Int32 × Int32 × Int32 × Int32
def eAg (N I E B : Nat → Int32) (L : List Ent) : Prop := ∀ (k : Nat) (q : Ent), L[k]? = some q → N k = q.1 ∧ I k = q.2.1 ∧ E k = q.2.2.1 ∧ B k = q.2.2.2
theorem eAg_nil {N I E B : Nat → Int32} : eAg N I E B [] := fun k q h => by simp at h
theorem eAg_s {N I E B : Nat → Int32} {L : List Ent} {n : Nat} {a b c d : Int32} (h : eAg N I E B L) (hn : L.length = n) : eAg (upd N n a) (upd I n b) (upd E n c) (upd B n d) (L ++ [(a, b, c, d)]) := by
  intro k q hq
  subst hn
  rcases Nat.lt_or_ge k L.length with z | z
  · rw [List.getElem?_append_left z] at hq
    rw [pk_un (by omega), pk_un (by omega), pk_un (by omega), pk_un (by omega)]
    exact h k q hq
  · rw [List.getElem?_append_right z] at hq
    have hk : k - L.length = 0 := by
      rcases Nat.eq_zero_or_pos (k - L.length) with w | w
      · exact w
      · rw [List.getElem?_eq_none (by simp; omega)] at hq; cases hq
    rw [hk] at hq
    cases hq
    rw [show k = L.length by omega, pk_us, pk_us, pk_us, pk_us]
    exact ⟨rfl, rfl, rfl, rfl⟩
/-- a run of inserted numbers as entries: V a .. V (a + d - 1), put in by x -/
def seg (V : Nat → Int32) (x : Int32) : Nat → Nat → List Ent
  | 0, _ => []
  | d + 1, a => seg V x d a ++ [(V (a + d), x, nI 0, (-1))]
theorem seg_len {V : Nat → Int32} {x : Int32} : ∀ d a, (seg V x d a).length = d := by
  intro d a
  induction d with
  | zero => rfl
  | succ d ih => show (seg V x d a ++ [_]).length = _; rw [List.length_append, ih]; rfl
/-- how far two rows of numbers begin alike, d numbers looked at -/
def cpf (V U : Nat → Int32) (a b : Nat) : Nat → Nat
  | 0 => 0
  | d + 1 => if cpf V U a b d = d ∧ V (a + d) = U (b + d) then d + 1 else cpf V U a b d
theorem cpf_le {V U : Nat → Int32} {a b : Nat} : ∀ d, cpf V U a b d ≤ d := by
  intro d
  induction d with
  | zero => exact Nat.le_refl 0
  | succ d ih =>
    show (if cpf V U a b d = d ∧ V (a + d) = U (b + d) then d + 1 else cpf V U a b d) ≤ d + 1
    split <;> omega
theorem cpf_stop {V U : Nat → Int32} {a b t : Nat} (h1 : cpf V U a b t = t) (h2 : ¬ V (a + t) = U (b + t)) : ∀ d, t ≤ d → cpf V U a b d = t := by
  intro d hd
  induction d with
  | zero => rw [show t = 0 by omega] at h1 ⊢; exact h1
  | succ d ih =>
    rcases Nat.lt_or_ge t (d + 1) with z | z
    · have h3 := ih (by omega)
      show (if cpf V U a b d = d ∧ V (a + d) = U (b + d) then d + 1 else cpf V U a b d) = t
      rw [if_neg (by rintro ⟨w1, w2⟩; rw [h3] at w1; subst w1; exact h2 w2), h3]
    · rw [show d + 1 = t by omega]; exact h1
theorem cpf_on {V U : Nat → Int32} {a b t : Nat} (h1 : cpf V U a b t = t) (h2 : V (a + t) = U (b + t)) : cpf V U a b (t + 1) = t + 1 := if_pos ⟨h1, h2⟩
/-- where the inserts end that begin at a, d steps looked at -/
def eiF (K : Nat → Int32) : Nat → Nat → Nat
  | 0, a => a
  | d + 1, a => if K a = nI 2 then eiF K d (a + 1) else a
theorem eiF_on {K : Nat → Int32} {d a : Nat} (h : K a = nI 2) : eiF K (d + 1) a = eiF K d (a + 1) := if_pos h
theorem eiF_end {K : Nat → Int32} {d a : Nat} (h : ¬ K a = nI 2) : eiF K (d + 1) a = a := if_neg h
theorem eiF_b {K : Nat → Int32} : ∀ d a, a ≤ eiF K d a ∧ eiF K d a ≤ a + d ∧ plc K (nI 2) (eiF K d a) = plc K (nI 2) a ∧ (eiF K d a < a + d → ¬ K (eiF K d a) = nI 2) := by
  intro d
  induction d with
  | zero => intro a; exact ⟨Nat.le_refl _, Nat.le_refl _, rfl, fun h => absurd h (by show ¬ a < a + 0; omega)⟩
  | succ d ih =>
    intro a
    by_cases h : K a = nI 2
    · obtain ⟨h1, h2, h3, h4⟩ := ih (a + 1)
      rw [eiF_on h]
      exact ⟨by omega, by omega, by rw [h3, plc_no h], fun z => h4 (by omega)⟩
    · rw [eiF_end h]
      exact ⟨Nat.le_refl _, by omega, rfl, fun _ => h⟩
/-- the step at which the inserts before place p begin -/
def stp (K : Nat → Int32) (n : Nat) : Nat → Nat
  | 0 => 0
  | p + 1 => eiF K (n - stp K n p) (stp K n p) + 1
theorem plc_dif {K : Nat → Int32} {x : Int32} {i k : Nat} (h : i ≤ k) : plc K x k ≤ plc K x i + (k - i) := by
  induction k with
  | zero => rw [show i = 0 by omega]; exact Nat.le_add_right _ _
  | succ k ih =>
    rcases Nat.lt_or_ge i (k + 1) with z | z
    · have := ih (by omega)
      by_cases h2 : K k = x
      · rw [plc_no h2]; omega
      · rw [plc_yes h2]; omega
    · rw [show i = k + 1 by omega]; exact Nat.le_add_right _ _
/-- a script of n steps that does na places: where its inserts before place p stand -/
theorem stp_ok {K : Nat → Int32} {n na : Nat} (hpl : plc K (nI 2) n = na) : ∀ p, p ≤ na → stp K n p ≤ n ∧ plc K (nI 2) (stp K n p) = p ∧ stp K n p ≤ eiF K (n - stp K n p) (stp K n p) ∧ eiF K (n - stp K n p) (stp K n p) + (na - p) ≤ n ∧ (p < na → ¬ K (eiF K (n - stp K n p) (stp K n p)) = nI 2) := by
  have key : ∀ p, stp K n p ≤ n → plc K (nI 2) (stp K n p) = p → stp K n p ≤ n ∧ plc K (nI 2) (stp K n p) = p ∧ stp K n p ≤ eiF K (n - stp K n p) (stp K n p) ∧ eiF K (n - stp K n p) (stp K n p) + (na - p) ≤ n ∧ (p < na → ¬ K (eiF K (n - stp K n p) (stp K n p)) = nI 2) := by
    intro p h1 h2
    obtain ⟨e1, e2, e3, e4⟩ := eiF_b (K := K) (n - stp K n p) (stp K n p)
    have e5 := plc_dif (K := K) (x := nI 2) (show eiF K (n - stp K n p) (stp K n p) ≤ n by omega)
    rw [e3, h2, hpl] at e5
    exact ⟨h1, h2, e1, by omega, fun z => e4 (by omega)⟩
  intro p
  induction p with
  | zero => intro _; exact key 0 (Nat.zero_le n) rfl
  | succ p ih =>
    intro hp
    obtain ⟨h1, h2, h3, h4, h5⟩ := ih (by omega)
    obtain ⟨e1, e2, e3, e4⟩ := eiF_b (K := K) (n - stp K n p) (stp K n p)
    refine key (p + 1) ?_ ?_
    · show eiF K (n - stp K n p) (stp K n p) + 1 ≤ n
      omega
    · show plc K (nI 2) (eiF K (n - stp K n p) (stp K n p) + 1) = p + 1
      rw [plc_yes (h5 (by omega)), e3, h2]
/-- how many inserts before place p both begin with -/
def mS (K V Kr Vr : Nat → Int32) (n nr p : Nat) : Nat := cpf V Vr (stp K n p) (stp Kr nr p) (min (eiF K (n - stp K n p) (stp K n p) - stp K n p) (eiF Kr (nr - stp Kr nr p) (stp Kr nr p) - stp Kr nr p))
/-- the entries of place p -/
def mB (f K V Kr Vr : Nat → Int32) (na n nr p : Nat) : List Ent :=
  seg V (nI 3) (mS K V Kr Vr n nr p) (stp K n p) ++ (seg V (nI 1) (eiF K (n - stp K n p) (stp K n p) - stp K n p - mS K V Kr Vr n nr p) (stp K n p + mS K V Kr Vr n nr p) ++ (seg Vr (nI 2) (eiF Kr (nr - stp Kr nr p) (stp Kr nr p) - stp Kr nr p - mS K V Kr Vr n nr p) (stp Kr nr p + mS K V Kr Vr n nr p) ++
    (if p < na then [(f p, nI 0, (if K (eiF K (n - stp K n p) (stp K n p)) = nI 1 then nI 1 else nI 0) ||| (if Kr (eiF Kr (nr - stp Kr nr p) (stp Kr nr p)) = nI 1 then nI 2 else nI 0), nI p)] else [])))
def mL (f K V Kr Vr : Nat → Int32) (na n nr : Nat) : Nat → List Ent
  | 0 => []
  | p + 1 => mL f K V Kr Vr na n nr p ++ mB f K V Kr Vr na n nr p
def mC (K V Kr Vr : Nat → Int32) (n nr : Nat) : Nat → Nat
  | 0 => 0
  | p + 1 => if stp K n p + mS K V Kr Vr n nr p < eiF K (n - stp K n p) (stp K n p) ∧ stp Kr nr p + mS K V Kr Vr n nr p < eiF Kr (nr - stp Kr nr p) (stp Kr nr p) then mC K V Kr Vr n nr p + 1 else mC K V Kr Vr n nr p
theorem mL_1 {f K V Kr Vr : Nat → Int32} {na n nr p a b ae be sm : Nat} (ha : a = stp K n p) (hb : b = stp Kr nr p) (hae : ae = eiF K (n - a) a) (hbe : be = eiF Kr (nr - b) b) (hsm : sm = cpf V Vr a b (min (ae - a) (be - b))) (hp : p < na) :
    mL f K V Kr Vr na n nr (p + 1) = (((mL f K V Kr Vr na n nr p ++ seg V (nI 3) sm a) ++ seg V (nI 1) (ae - a - sm) (a + sm)) ++ seg Vr (nI 2) (be - b - sm) (b + sm)) ++ [(f p, nI 0, (if K ae = nI 1 then nI 1 else nI 0) ||| (if Kr be = nI 1 then nI 2 else nI 0), nI p)] := by
  subst ha hb hae hbe hsm
  show _ ++ mB f K V Kr Vr na n nr p = _
  unfold mB mS
  rw [if_pos hp]
  simp only [List.append_assoc]
theorem mL_0 {f K V Kr Vr : Nat → Int32} {na n nr p a b ae be sm : Nat} (ha : a = stp K n p) (hb : b = stp Kr nr p) (hae : ae = eiF K (n - a) a) (hbe : be = eiF Kr (nr - b) b) (hsm : sm = cpf V Vr a b (min (ae - a) (be - b))) (hp : ¬ p < na) :
    mL f K V Kr Vr na n nr (p + 1) = ((mL f K V Kr Vr na n nr p ++ seg V (nI 3) sm a) ++ seg V (nI 1) (ae - a - sm) (a + sm)) ++ seg Vr (nI 2) (be - b - sm) (b + sm) := by
  subst ha hb hae hbe hsm
  show _ ++ mB f K V Kr Vr na n nr p = _
  unfold mB mS
  rw [if_neg hp]
  simp only [List.append_assoc, List.append_nil]
theorem mC_1 {K V Kr Vr : Nat → Int32} {n nr p a b ae be sm : Nat} (ha : a = stp K n p) (hb : b = stp Kr nr p) (hae : ae = eiF K (n - a) a) (hbe : be = eiF Kr (nr - b) b) (hsm : sm = cpf V Vr a b (min (ae - a) (be - b))) (h : a + sm < ae ∧ b + sm < be) : mC K V Kr Vr n nr (p + 1) = mC K V Kr Vr n nr p + 1 := by
  subst ha hb hae hbe hsm
  exact if_pos h
theorem mC_0 {K V Kr Vr : Nat → Int32} {n nr p a b ae be sm : Nat} (ha : a = stp K n p) (hb : b = stp Kr nr p) (hae : ae = eiF K (n - a) a) (hbe : be = eiF Kr (nr - b) b) (hsm : sm = cpf V Vr a b (min (ae - a) (be - b))) (h : ¬ (a + sm < ae ∧ b + sm < be)) : mC K V Kr Vr n nr (p + 1) = mC K V Kr Vr n nr p := by
  subst ha hb hae hbe hsm
  exact if_neg h
theorem mC_le {K V Kr Vr : Nat → Int32} {n nr : Nat} : ∀ p, mC K V Kr Vr n nr p ≤ p := by
  intro p
  induction p with
  | zero => exact Nat.le_refl 0
  | succ p ih =>
    rw [mC]
    split
    · exact Nat.succ_le_succ ih
    · exact Nat.le_succ_of_le ih
theorem z_m1 {n : Nat} (h : n < 2 ^ 31) : ¬ nI n = -1 := by
  intro z
  have h1 := nI_toInt h
  rw [z] at h1
  have h2 : (-1 : Int32).toInt = -1 := by decide
  omega
