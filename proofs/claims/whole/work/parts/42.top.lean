/-! THE CLAIM OUT OF ONE WALK OF THE LAW'S BODY. Your part is whole_start (and what it stands on); all else here is the same for every law, but numbers. -/
def R_law : String := "RowDifferLaw"
def lw_P (b : Addr) (xs : List Int32) (args : Array Value) (s : State) : Prop := args = #[.ref b] ∧ s.IntsAt b xs ∧ xs.length ≤ 2048 ∧ (Jvm.Cond.and given_1 narrow_1).before args s = true
def lw_Q (_ : Array Value) (s : State) (o : Outcome) (t : State) : Prop := o = .returned (some (.int 1)) ∧ Framed s o t [] 601024 7293033
def lw_Z (below : List Frame) (a : Array Value) (s : State) : State → Prop := fun t => ∃ o, t.status = .running ∧ Ended t below o ∧ lw_Q a s o t
/-- the law's own end, with 1 on the stack, nothing written that was there before, its room as the claim has it -/
theorem lw_ret {p : Program} {l : Launch} {e : Env} {s : State} {m : MethodId} {below : List Frame} {meth : Method} {c : Code} {b : Nat} (hx : p.tables.exec = Jvm.exec) (hb : c.code = code) (hr : meth.sig.returnType = ret) (hlocks : meth.locks = false) {pc : Nat} {H : Heap} {ls : Array Slot} (hdg : decode code pc = .ok (.ireturn, 1)) : W p l e room_1 s m #[Value.ref b] below meth c H [] 601024 7293033 (lw_Z below #[Value.ref b] s) (F0 m pc ls [.int 1]) := by
  intro T hT X
  obtain ⟨fs, hret, hrun, hended, hW, hframe⟩ := X.leave (v := some (.int 1)) (hlocks := hlocks) (fun h => by rw [hr] at h; cases h)
  have hmeth' : T.vm.method? m = some meth := X.method'
  refine ⟨T.setFrames fs, ?_, .returned (some (.int 1)), hrun, hended, rfl, ⟨_, rfl⟩, hW, hframe⟩
  jvm_step X.here [X.here.top, hx, hb, hdg, hmeth', hr, ret, narrow_b1]
  (try refine ⟨rfl, ?_⟩); (try refine ⟨rfl, ?_⟩)
  first | (intro acts; rw [hret _ acts rfl rfl rfl]) | rw [hret _ _ rfl rfl rfl]
  exact Steps.refl _
/-- what holds at the law's entry: the machine, the code, the tables' words (any of lw_tbl by 'hts w (by decide +kernel)'), the script of L ints xs at the cell b, what the Statement gives of the start (any of its parts by flat_of_before) -/
def lw_At (p : Program) (s : State) (m : MethodId) (meth : Method) (c : Code) (b L : Nat) (xs : Nat → Int32) : Prop :=
  p.tables.exec = Jvm.exec ∧ c.code = code ∧ meth.sig.returnType = ret ∧ c.maxLocals = 7 ∧ s.vm.findClass R_law = some m.cls ∧ (∀ w ∈ lw_tbl, w.before #[Value.ref b] s = true) ∧ va_X b L xs s s.heap ∧ b < s.heap.size ∧ meth.locks = false ∧ (Jvm.Cond.and given_1 narrow_1).before #[Value.ref b] s = true
/-! ===== whole_start: the fixed facts of the entry ===== -/
theorem lw_arr {args : Array Value} {s : State} {ty : FieldType} (h : (Cond.arrayClass ty).before args s = true) : ∃ cA : ClassId, ArrOfT s cA ty ∧ s.vm.findClass ("[" ++ ty.toString) = some cA := by
  obtain ⟨cA, kA, comp, f1, f2, f3⟩ := Cond.arrayClass_spec h
  exact ⟨cA, fun n z => ⟨fun k h => (by cases h), kA, f2, comp, f3⟩, f1⟩
theorem lw_over {args : Array Value} {s : State} {C : String} (h : (Cond.arrayOver (.object C)).before args s = true) : ∃ cA : ClassId, ArrOfT s cA (.object C) ∧ va_RA s cA (.object C) := by
  obtain ⟨comp, c, k, g1, g2, g3, g4, g5⟩ := Cond.arrayOver_spec h
  exact ⟨c, fun n z => ⟨fun k h => (by cases h), k, g3, comp, g4⟩, k, comp, g3, g4, g1, g5⟩
set_option maxRecDepth 100000 in
theorem lw_strs : ∀ q ∈ zStr, Cond.stringRef RX4 q.1 q.2 ∈ lw_tbl := by decide +kernel
set_option maxRecDepth 100000 in
theorem lw_lays1 : Cond.laysStatic Bundle.tN "UNASSIGNED_STACK" Bundle.steD ∈ lw_tbl := by decide +kernel
set_option maxRecDepth 100000 in
theorem lw_lays2 : Cond.laysStatic Bundle.tN "SUPPRESSED_SENTINEL" Bundle.listD ∈ lw_tbl := by decide +kernel
set_option maxRecDepth 100000 in
theorem lw_iniT : Cond.initialized Bundle.tN ∈ lw_tbl := by decide +kernel
set_option maxHeartbeats 4000000 in
set_option maxRecDepth 100000 in
theorem lw_fix {p : Program} {s : State} {m : MethodId} {meth : Method} {c : Code} {b L : Nat} {xs : Nat → Int32} (C0 : lw_At p s m meth c b L xs) : ∃ (dC : Nat → ClassId) (dI : Nat → Nat → Nat) (cI cJ cR cS cB cZ : ClassId), lwFix p s m #[Value.ref b] c (fun q => s.heap.size ≤ q) dC dI cI cJ cR cS cB cZ b L xs := by
  obtain ⟨hx, hb, hr, hml, hown, hts, hX, hbl, hlocks, hgv⟩ := C0
  have hz : ∀ w ∈ zW, w.before #[Value.ref b] s = true := fun w h => hts w (zW_tbl h)
  have hN : zN zNW s := fun w hw => ⟨(List.mem_filter.mp hw).2, zNk_of (List.mem_filter.mp hw).2 (hts w (List.mem_filter.mp hw).1)⟩
  have hfl := flat_of_before _ hgv
  obtain ⟨d0, i0, k0⟩ := u_known (C := RX0) (T := TX0) (N := 2) (n := 2) hz hinX0 (hz _ zw_67)
  obtain ⟨d1, i1, k1⟩ := u_known (C := RX1) (T := TX1) (N := 6) (n := 6) hz hinX1 (hz _ zw_109)
  obtain ⟨d2, i2, k2⟩ := u_known (C := RX2) (T := TX2) (N := 2) (n := 2) hz hinX2 (hz _ zw_45)
  obtain ⟨d3, i3, k3⟩ := u_known (C := RX3) (T := TX3) (N := 5) (n := 5) hz hinX3 (hz _ zw_81)
  obtain ⟨d4, i4, k4⟩ := u_known (C := RX4) (T := TX4) (N := 6) (n := 6) hz hinX4 (hz _ zw_36)
  obtain ⟨d5, i5, k5⟩ := u_known (C := RX5) (T := TX5) (N := 19) (n := 19) hz hinX5 (hz _ zw_473)
  obtain ⟨cI, aI, fI⟩ := lw_arr (hz _ zw_65)
  obtain ⟨cJ, aJ, fJ⟩ := lw_arr (hz _ zw_79)
  obtain ⟨cS, aS, fS⟩ := lw_arr (hz _ zw_536)
  obtain ⟨cB, aB, fB⟩ := lw_arr (hz _ zw_280)
  obtain ⟨cZ, aZ, fZ⟩ := lw_arr (hz _ zw_537)
  obtain ⟨cR, aR, fR⟩ := lw_over (C := RX2) (args := #[Value.ref b]) (hN.use _ zn_44)
  obtain ⟨dC, hdC⟩ : ∃ dC : Nat → ClassId, dC = fun k => match k with | 0 => d0 | 1 => d1 | 2 => d2 | 3 => d3 | 4 => d4 | _ => d5 := ⟨_, rfl⟩
  obtain ⟨dI, hdI⟩ : ∃ dI : Nat → Nat → Nat, dI = fun k => match k with | 0 => i0 | 1 => i1 | 2 => i2 | 3 => i3 | 4 => i4 | _ => i5 := ⟨_, rfl⟩
  have hcl : ∀ (c : Nat) (q : vw_C), vwCl[c]? = some q → u_Kn s q.1 q.2.1 q.2.2 (dC c) (dI c) := by
    subst hdC hdI
    intro c q hq
    match c, hq with
    | 0, hq => cases hq; exact k0
    | 1, hq => cases hq; exact k1
    | 2, hq => cases hq; exact k2
    | 3, hq => cases hq; exact k3
    | 4, hq => cases hq; exact k4
    | 5, hq => cases hq; exact k5
    | c + 6, hq => simp at hq
  have hKc : va_K (dC, dI) vwCl (zT cI cJ cR) s := by
    refine ⟨hcl, fun k q hq => ?_⟩
    match k, hq with
    | 0, hq => cases hq; exact ⟨aI, fI⟩
    | 1, hq => cases hq; exact ⟨aJ, fJ⟩
    | 2, hq => cases hq; exact ⟨aR, fR⟩
    | k + 3, hq => simp at hq
  have hKm : va_K (dC, dI) vwCl (zTm cI cS cB cZ) s := by
    refine ⟨hcl, fun k q hq => ?_⟩
    match k, hq with
    | 0, hq => cases hq; exact ⟨aI, fI⟩
    | 1, hq => cases hq; exact ⟨aS, fS⟩
    | 2, hq => cases hq; exact ⟨aB, fB⟩
    | 3, hq => cases hq; exact ⟨aZ, fZ⟩
    | k + 4, hq => simp at hq
  have hA9 : ∀ a : Nat, a < s.heap.size → ¬ (fun q : Nat => s.heap.size ≤ q) a := fun a h => Nat.not_le.mpr h
  have hT : zTh (fun q : Nat => s.heap.size ≤ q) s s.heap := by
    refine ⟨fun q hq => ?_, vx_Zqof (hts _ lw_lays1) (hts _ lw_iniT) (hfl _ (by decide +kernel)) hA9, vx_Zqof (hts _ lw_lays2) (hts _ lw_iniT) (hfl _ (by decide +kernel)) hA9, fun w hw => ?_⟩
    · have h1 := hts _ (lw_strs q hq)
      obtain ⟨k9, cf, i, a, e1, e2, e3, e4, e5, e6⟩ := Cond.stringRef_spec (hcl 4 _ rfl).2.1 h1
      exact ⟨a, vk_R.of h1 e6⟩
    · obtain ⟨h1, h2⟩ := List.mem_filter.mp hw
      obtain ⟨x9, rfl⟩ := zDk_cases h2
      exact va_Nw.of rfl (hts _ h1)
  have hNc : zNc s := ⟨va_Nc.of (hfl _ (by decide +kernel)), va_Nc.of (hfl _ (by decide +kernel)), va_Nc.of (hfl _ (by decide +kernel))⟩
  exact ⟨dC, dI, cI, cJ, cR, cS, cB, cZ, hx, hb, hml, hown, hz, fun _ h => h, hKc, hKm, hN, hT, hNc, hX, hbl, Nat.not_le.mpr hbl⟩
