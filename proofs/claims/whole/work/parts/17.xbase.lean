/-! ===== XBASE: contracts of methods that return or throw (our own rows over the names' vx rows) ===== -/
def zDk (w : Cond) : Bool := match w with
  | .declares _ => true
  | _ => false
def zDW : List Cond := lw_tbl.filter zDk
theorem zDk_cases {w : Cond} (h : zDk w = true) : ∃ x, w = .declares x := by
  unfold zDk at h
  split at h
  · exact ⟨_, rfl⟩
  · cases h
def zStr : List (Nat × String) := [(164, "no such row"), (64, "no such place"), (79, "the script costs too much"), (83, "no such step"), (97, "a step has no such property"), (108, "no such hunk"), (114, "a hunk has no such property"), (116, "there is no script"), (122, "the script is not for this row"), (128, "a script of the merge costs too much"), (135, "no such entry"), (147, "an entry has no such property"), (152, "no such set of sides"), (154, "there is no merge"), (159, "the row would have too many numbers")]
/-- what a throw needs of the state: the texts, Throwable's two statics (outside A), the declared constructors -/
def zTh (A : Nat → Prop) (U : State) (H : Heap) : Prop :=
  (∀ q ∈ zStr, ∃ a, vk_R RX4 q.1 q.2 a U) ∧ vx_Zq Bundle.tN "UNASSIGNED_STACK" Bundle.steD A U H ∧ vx_Zq Bundle.tN "SUPPRESSED_SENTINEL" Bundle.listD A U H ∧ ∀ w ∈ zDW, va_Nw w U
theorem zTh.warm {A : Nat → Prop} {s U : State} {H : Heap} (hW : s.WarmedH U.vm) (h : zTh A s H) : zTh A U H := by
  refine ⟨fun q hq => ?_, vx_Zq.moved hW.alike h.2.1, vx_Zq.moved hW.alike h.2.2.1, fun w hw => ?_⟩
  · obtain ⟨a, ha⟩ := h.1 q hq
    exact ⟨a, vk_R.warm hW ha⟩
  · obtain ⟨x, rfl⟩ := zDk_cases (List.mem_filter.mp hw).2
    exact va_Nw.warmD hW (h.2.2.2 _ hw)
theorem zTh.same {A : Nat → Prop} {s U : State} {H : Heap} (hv : s.vm = U.vm) (h : zTh A s H) : zTh A U H := by
  refine ⟨fun q hq => ?_, vx_Zq.moved (by rw [hv]; exact Vm.Alike.refl _) h.2.1, vx_Zq.moved (by rw [hv]; exact Vm.Alike.refl _) h.2.2.1, fun w hw => ?_⟩
  · obtain ⟨a, ha⟩ := h.1 q hq
    exact ⟨a, vk_R.same hv.symm ha⟩
  · obtain ⟨x, rfl⟩ := zDk_cases (List.mem_filter.mp hw).2
    exact va_Nw.same rfl hv (h.2.2.2 _ hw)
theorem zTh.kept {A : Nat → Prop} {s : State} {H0 H : Heap} {locs : List Loc} (hS : va_S A H0 H locs) (h : zTh A s H0) : zTh A s H := ⟨h.1, h.2.1.kept hS.2.1, h.2.2.1.kept hS.2.1, h.2.2.2⟩
theorem zTh.narrow {A B : Nat → Prop} {s : State} {H : Heap} (hAB : ∀ q, B q → A q) (h : zTh A s H) : zTh B s H := ⟨h.1, h.2.1.narrow hAB, h.2.2.1.narrow hAB, h.2.2.2⟩
def zPx (D : va_G) (cl : List vw_C) (tys : List (ClassId × FieldType)) (NW : List Cond) (as : List Value) (w : va_W) (sz : Nat) : Array Value → State → Prop := fun v U => zP D cl tys NW as w sz v U ∧ zTh (va_A w sz) U U.heap
theorem zPx_blind {D : va_G} {cl : List vw_C} {tys : List (ClassId × FieldType)} {NW : List Cond} {as : List Value} {w : va_W} {sz : Nat} : FrameBlind (zPx D cl tys NW as w sz) := fun a U g mk q => ⟨zP_blind a U g mk q.1, zTh.same (s := U) (U := U.calling g mk a) rfl q.2⟩
abbrev zEN : List String := ["java/lang/RuntimeException", "java/lang/Exception"]
def zXE (D : va_G) (cl : List vw_C) (tys : List (ClassId × FieldType)) (pe : String → va_W → Prop) (A : Nat → Prop) : String → State → State → Prop := vx_X (fun _ : va_W => True) (fun E u t => pe E u ∧ zB D cl tys A u t) A
def zIX (l : Launch) (D : va_G) (cl : List vw_C) (tys : List (ClassId × FieldType)) (NW : List Cond) (y : MethodName) (ws : List Cond) (rm : Room) (as : List Value) (w : va_W) (post : Int32 → va_W → Prop) (pe : String → va_W → Prop) : Prop :=
  ∀ sz : Nat, vx_Met l y ws rm (zPx D cl tys NW as w sz) (va_Qi post (zB D cl tys (va_A w sz)) (va_A w sz)) (zXE D cl tys pe (va_A w sz)) rm.cells rm.slots (va_A w sz)
def zRX (l : Launch) (D : va_G) (cl : List vw_C) (tys : List (ClassId × FieldType)) (NW : List Cond) (y : MethodName) (ws : List Cond) (rm : Room) (as : List Value) (w : va_W) (post : Nat → va_W → Prop) (pe : String → va_W → Prop) : Prop :=
  ∀ sz : Nat, vx_Met l y ws rm (zPx D cl tys NW as w sz) (va_Qr (fun _ : va_W => True) (fun u a t => post a u ∧ zB D cl tys (va_A w sz) u t) (va_A w sz)) (zXE D cl tys pe (va_A w sz)) rm.cells rm.slots (va_A w sz)
section Zxcalls
variable {p : Program} {l : Launch} {e : Env} {R : Room} {s : State} {m : MethodId} {args : Array Value} {below : List Frame} {meth : Method} {c : Code} {H H0 : Heap} {locs : List Loc} {cells slots mc ms pc : Nat} {Q : State → Prop} {ls : Array Slot} {rest st0 : List Value} {A : Nat → Prop} {D : va_G} {cl : List vw_C} {X T cx wr w : va_W} {tys : List (ClassId × FieldType)} {NW : List Cond} {as As : List Value} {a : Array Value}
theorem z_preQX (hK : va_K D cl tys s) (hN : zN NW s) (hT : zTh A s s.heap) (hS : va_S A s.heap H locs) (hA : ∀ q, s.heap.size ≤ q → A q) (hP : va_P D cl (X ++ T) H) (hD : va_D A (X ++ T)) (isC : List Nat) (hC : isC.map (fun i => X[i]?) = cx.map some) (hnd : va_nd isC = true) :
    ∀ U : State, U.heap = H → s.WarmedH U.vm → zPx D cl tys NW as cx H.size as.toArray U := fun U hU hW =>
  ⟨z_preQ hK hN hP hD isC hC hnd U hU hW, by rw [hU]; exact ((hT.kept hS).warm hW).narrow (z_freeQ hD hS hA isC hC)⟩
theorem z_prePX (hK : va_K D cl tys s) (hN : zN NW s) (hT : zTh A s s.heap) (hS : va_S A s.heap H locs) (hA : ∀ q, s.heap.size ≤ q → A q) (hP : va_P D cl (X ++ T) H) (hD : va_D A (X ++ T)) (isC : List Nat) (hC : isC.map (fun i => X[i]?) = cx.map some) (hnd : va_nd isC = true) :
    ∀ U : State, U.heap = H → s.WarmedH U.vm → zPx D cl tys NW as (cx ++ T) H.size as.toArray U := fun U hU hW =>
  ⟨z_preP hK hN hP hD isC hC hnd U hU hW, by rw [hU]; exact ((hT.kept hS).warm hW).narrow (z_freeP hD hS hA isC hC)⟩
/-- a call that gives a reference or throws -/
theorem z_callrX {A0 A1 : Nat → Prop} {S SX : Type} {post : S → Prop} {px : SX → Prop} {B : S → Nat → State → Prop} {BX : String → SX → State → Prop} {AX free : Nat → Prop} (hr : vx_Run p l e R s m args below meth c H locs cells slots mc ms (F0 m pc ls st0) rest (va_Qr post B A1 a) (vx_X px BX AX) free) (hS : va_S A0 H0 H locs) (hA : ∀ q, q < H.size → A1 q → A0 q) (hf : ∀ q, free q → A0 q) (hAX : ∀ q, q < H.size → AX q → A0 q)
    (kx : ∀ (E : String) (ce : Cell) (q9 : Addr) (u : SX) (t : State) (H1 : Heap) (locs1 : List Loc), t.heap = H1 → s.vm.Alike t.vm → px u → BX E u t → H.size ≤ H1.size → (∀ q : Nat, q < H.size → ¬ AX q → H1[q]? = H[q]?) → va_S A0 H0 H1 locs1 → H1[q9]? = some ce → ce.vm = .none → s.vm.findClass E = some ce.cls → vx_W p l e R s m args below meth c H1 locs1 (cells + mc) (slots + ms) Q (F0 m pc ls rest) q9)
    (kk : ∀ (u : S) (ra : Nat) (t : State) (H1 : Heap) (locs1 : List Loc), t.heap = H1 → s.vm.Alike t.vm → post u → B u ra t → H.size ≤ H1.size → (∀ q : Nat, q < H.size → ¬ A1 q → H1[q]? = H[q]?) → va_S A0 H0 H1 locs1 → W p l e R s m args below meth c H1 locs1 (cells + mc) (slots + ms) Q (F0 m (pc + 3) ls (.ref ra :: rest))) : W p l e R s m args below meth c H locs cells slots Q (F0 m pc ls st0) := by
  intro T hT X
  rcases hr T hT X with ⟨v, st₀, t, T', L, h0, X', hL, e1, e2, ⟨⟨u, ra, hv, hp, hb⟩, hF⟩, st⟩ | ⟨q, st₀, t, T', L, E, ce, h0, X', hL, e1, e2, ⟨u, hp, hb, hF⟩, hce, hcv, hcl, st⟩
  · cases hv
    obtain ⟨k1, k2, k3⟩ := vx_keep h0 e1 hS hA hf hL hF
    obtain ⟨t2, a1, b1⟩ := kk u ra t T'.heap (locs ++ L) e1.symm (by rw [← e2]; exact X'.warmed.alike) hp hb k1 k2 k3 T' rfl X'
    exact ⟨t2, st t2 a1, b1⟩
  · obtain ⟨k1, k2, k3⟩ := vx_keep h0 e1 hS hAX hf hL hF
    obtain ⟨t2, a1, b1⟩ := kx E ce q u t T'.heap (locs ++ L) e1.symm (by rw [← e2]; exact X'.warmed.alike) hp hb k1 k2 k3 (by rw [e1]; exact hce) hcv hcl T' rfl X'
    exact ⟨t2, st.trans a1, b1⟩
theorem z_crQX {post : Nat → va_W → Prop} {pe : String → va_W → Prop} (hP : va_P D cl (X ++ T) H) (hD : va_D A (X ++ T)) (hS : va_S A H0 H locs) (hA : ∀ q, H0.size ≤ q → A q) (isC isR : List Nat) (hC : isC.map (fun i => X[i]?) = cx.map some) (hR : isR.map (fun i => X[i]?) = wr.map some) (hn : va_nd isR = true) (hdis : ∀ i ∈ isR, i ∉ isC)
    (hr : vx_Run p l e R s m args below meth c H locs cells slots mc ms (F0 m pc ls st0) rest (va_Qr (fun _ : va_W => True) (fun u r t => post r u ∧ zB D cl tys (va_A cx H.size) u t) (va_A cx H.size) a) (zXE D cl tys pe (va_A cx H.size)) (va_A cx H.size))
    (kx : ∀ (E : String) (ce : Cell) (q9 : Addr) (w1 : va_W) (H1 : Heap) (locs1 : List Loc), pe E w1 → va_P D cl ((wr ++ w1) ++ T) H1 → va_D A ((wr ++ w1) ++ T) → va_S A H0 H1 locs1 → H1[q9]? = some ce → ce.vm = .none → s.vm.findClass E = some ce.cls → vx_W p l e R s m args below meth c H1 locs1 (cells + mc) (slots + ms) Q (F0 m pc ls rest) q9)
    (kk : ∀ (r : Nat) (w1 : va_W) (H1 : Heap) (locs1 : List Loc), post r w1 → va_P D cl ((wr ++ w1) ++ T) H1 → va_D A ((wr ++ w1) ++ T) → va_S A H0 H1 locs1 → W p l e R s m args below meth c H1 locs1 (cells + mc) (slots + ms) Q (F0 m (pc + 3) ls (.ref r :: rest))) :
    W p l e R s m args below meth c H locs cells slots Q (F0 m pc ls st0) := by
  have hFc := z_freeQ hD hS hA isC hC
  refine z_callrX hr hS (fun q _ h => hFc q h) hFc (fun q _ h => hFc q h) (fun E ce q9 u t H1 locs1 ht hvm _ hB hz1 hk1 hS1 hce hcv hcl => ?_) (fun u ra t H1 locs1 ht hvm _ hB hz1 hk1 hS1 => ?_)
  · obtain ⟨hpe, hP1, hK1, hD1⟩ := hB
    rw [ht] at hP1
    obtain ⟨g1, g2⟩ := va_joinQ hP hD isC isR hC hR hn hdis hk1 hFc hP1 hD1
    exact kx E ce q9 u H1 locs1 hpe g1 g2 hS1 hce hcv hcl
  · obtain ⟨hpo, hP1, hK1, hD1⟩ := hB
    rw [ht] at hP1
    obtain ⟨g1, g2⟩ := va_joinQ hP hD isC isR hC hR hn hdis hk1 hFc hP1 hD1
    exact kk ra u H1 locs1 hpo g1 g2 hS1
theorem z_ciPX {post : Int32 → va_W → Prop} {pe : String → va_W → Prop} (hP : va_P D cl (X ++ T) H) (hD : va_D A (X ++ T)) (hS : va_S A H0 H locs) (hA : ∀ q, H0.size ≤ q → A q) (isC isR : List Nat) (hC : isC.map (fun i => X[i]?) = cx.map some) (hR : isR.map (fun i => X[i]?) = wr.map some) (hn : va_nd isR = true) (hdis : ∀ i ∈ isR, i ∉ isC)
    (hr : vx_Run p l e R s m args below meth c H locs cells slots mc ms (F0 m pc ls st0) rest (va_Qi post (zB D cl tys (va_A (cx ++ T) H.size)) (va_A (cx ++ T) H.size) a) (zXE D cl tys pe (va_A (cx ++ T) H.size)) (va_A (cx ++ T) H.size))
    (kx : ∀ (E : String) (ce : Cell) (q9 : Addr) (w1 : va_W) (H1 : Heap) (locs1 : List Loc), pe E w1 → (∀ rx T1 : va_W, w1 = rx ++ T1 → va_P D cl ((wr ++ rx) ++ T1) H1 ∧ va_D A ((wr ++ rx) ++ T1)) → va_S A H0 H1 locs1 → H1[q9]? = some ce → ce.vm = .none → s.vm.findClass E = some ce.cls → vx_W p l e R s m args below meth c H1 locs1 (cells + mc) (slots + ms) Q (F0 m pc ls rest) q9)
    (kk : ∀ (r : Int32) (w1 : va_W) (H1 : Heap) (locs1 : List Loc), post r w1 → (∀ rx T1 : va_W, w1 = rx ++ T1 → va_P D cl ((wr ++ rx) ++ T1) H1 ∧ va_D A ((wr ++ rx) ++ T1)) → va_S A H0 H1 locs1 → W p l e R s m args below meth c H1 locs1 (cells + mc) (slots + ms) Q (F0 m (pc + 3) ls (.int r :: rest))) :
    W p l e R s m args below meth c H locs cells slots Q (F0 m pc ls st0) := by
  have hFc := z_freeP hD hS hA isC hC
  refine vx_calli hr hS (fun q _ h => hFc q h) hFc (fun q _ h => hFc q h) (fun E ce q9 u t H1 locs1 ht hvm _ hB hz1 hk1 hS1 hce hcv hcl => ?_) (fun r u t H1 locs1 ht hvm hw hB hz1 hk1 hS1 => ?_)
  · obtain ⟨hpe, hP1, hK1, hD1⟩ := hB
    rw [ht] at hP1
    refine kx E ce q9 u H1 locs1 hpe (fun rx T1 h => ?_) hS1 hce hcv hcl
    subst h
    exact va_joinP hP hD isC isR hC hR hn hdis hk1 hFc hP1 hD1
  · obtain ⟨hP1, hK1, hD1⟩ := hB
    rw [ht] at hP1
    refine kk r u H1 locs1 hw (fun rx T1 h => ?_) hS1
    subst h
    exact va_joinP hP hD isC isR hC hR hn hdis hk1 hFc hP1 hD1
end Zxcalls
section Zxof
variable {l : Launch} {D : va_G} {cl : List vw_C} {tys : List (ClassId × FieldType)} {NW : List Cond} {y : MethodName} {ws ws' : List Cond} {rm : Room} {as : List Value} {w : va_W} {cc : ByteArray} {maxL : Nat}
/-- the two ways out of a method that throws: an exception that a callee left, and 'throw new E("..")' -/
abbrev zOutR (l : Launch) (D : va_G) (cl : List vw_C) (rm : Room) (pe : String → va_W → Prop) (p : Program) (e : Env) (s : State) (m : MethodId) (args : Array Value) (below : List Frame) (meth : Method) (c : Code) (A : Nat → Prop) (Q : State → Prop) : Prop :=
  ∀ (H : Heap) (locs : List Loc) (w' : va_W) (pc : Nat) (ls : Array Slot) (rest : List Value) (E : String) (ce : Cell) (q : Addr) (cells slots : Nat), va_P D cl w' H → va_D A w' → va_S A s.heap H locs → H[q]? = some ce → ce.vm = .none → s.vm.findClass E = some ce.cls → pe E w' → cells ≤ rm.cells → slots ≤ rm.slots → vx_W p l e rm s m args below meth c H locs cells slots Q (F0 m pc ls rest) q
abbrev zThrR (l : Launch) (D : va_G) (cl : List vw_C) (y : MethodName) (cc : ByteArray) (maxL : Nat) (rm : Room) (pe : String → va_W → Prop) (p : Program) (e : Env) (s : State) (m : MethodId) (args : Array Value) (below : List Frame) (meth : Method) (c : Code) (A : Nat → Prop) (Q : State → Prop) : Prop :=
  ∀ (H : Heap) (locs : List Loc) (w' : va_W) (pc : Nat) (ls : Array Slot) (rest : List Value) (cls text : String) (ik is ic cells slots : Nat), va_P D cl w' H → va_D A w' → va_S A s.heap H locs → ls.size = maxL → Bundle.fit cls = true →
    (Cond.classLink y.cls ik cls).before args s = true → (Cond.initialized cls).before args s = true → (∃ sa, vk_R y.cls is text sa s) → (∀ w ∈ vx_atS y.cls ic cls zEN, w.before args s = true) → (∀ w ∈ Cond.classLink y.cls ik cls :: Cond.initialized cls :: vx_atS y.cls ic cls zEN, vx_ot w = true) →
    decode cc pc = .ok (.new ik, 3) → decode cc (pc + 3) = .ok (.dup, 1) → decode cc (pc + 4) = .ok (.ldc is, 2) → decode cc (pc + 6) = .ok (.invokespecial ic, 3) → decode cc (pc + 9) = .ok (.athrow, 1) →
    5 < rm.frames → (rest.map fun v => v.category).sum + 82 ≤ rm.locals → cells + 1 ≤ rm.cells → slots + 6 ≤ rm.slots → pe cls w' → W p l e rm s m args below meth c H locs cells slots Q (F0 m pc ls rest)
theorem z_outs {post : Array Value → State → Outcome → State → Prop} {pe : String → va_W → Prop} {p : Program} {e : Env} {s : State} {m : MethodId} {args : Array Value} {below : List Frame} {meth : Method} {c : Code} {A : Nat → Prop} (hl9 : l.stackTraces = false) (hx : p.tables.exec = Jvm.exec) (hb : c.code = cc) (hml : c.maxLocals = maxL) (hown : s.vm.findClass y.cls = some m.cls) (hK : va_K D cl tys s) (hT : zTh A s s.heap) (hno : ∀ x ∈ c.exceptionTable.toList, False) (hlocks : meth.locks = false) :
    zOutR l D cl rm pe p e s m args below meth c A (vx_MQ below post (zXE D cl tys pe A) args s rm.cells rm.slots A) ∧ zThrR l D cl y cc maxL rm pe p e s m args below meth c A (vx_MQ below post (zXE D cl tys pe A) args s rm.cells rm.slots A) := by
  constructor
  · intro H locs w' pc ls rest E ce q cells slots hP hD hS hce hcv hcl hpe hc hs
    exact vx_out (E := E) (fun x hx => (hno x hx).elim) hlocks hce hcv hcl (fun t ht ha => ⟨w', trivial, ⟨hpe, by rw [ht]; exact hP, va_K.moved ha hK, hD⟩, hS.F ht⟩) hS.2.2 hc hs
  · intro H locs w' pc ls rest cls text ik is ic cells slots hP hD hS hsz hfit hk hini hstr hat hgood d0 d3 d4 d6 d9 hfr hlo hc hs hpe
    obtain ⟨sa, hsa⟩ := hstr
    exact vx_throwS (own := y.cls) (cls := cls) (names := zEN) hx hb hl9 hown hfit (by decide +kernel) hk hini hsa hat hgood hT.2.1 hT.2.2.1 hS (hsz.trans hml.symm) d0 d3 d4 d6 d9 (fun x hx => (hno x hx).elim) (by show 2 + 3 < rm.frames; omega) (by show _ + (13 * (2 + 1) + 43) ≤ rm.locals; omega) hc hs hlocks
      (fun t ha hsz hk => ⟨w', trivial, ⟨hpe, hP.kept (fun k q hq => hk q.1 (hP k q hq).lt), va_K.moved ha hK, hD⟩, Nat.le_trans hS.1 hsz, fun q h1 h2 => (hk q (Nat.lt_of_lt_of_le h1 hS.1)).trans (hS.2.1 q h1 h2)⟩) hS.2.2 hc hs
theorem z_ofIX {post : Int32 → va_W → Prop} {pe : String → va_W → Prop} (hl9 : l.stackTraces = false) (hy : plainName y.cls = true) (hw : ws = Cond.code y cc maxL (some .int) :: ws') (hlen : (lg_sl as).length ≤ maxL)
    (body : ∀ (p : Program) (e : Env) (s : State) (m : MethodId) (args : Array Value) (below : List Frame) (meth : Method) (c : Code) (A : Nat → Prop) (Q : State → Prop) (ls : Array Slot), zIn D cl tys NW y ws w cc maxL as p s m args meth c A ls → zTh A s s.heap →
      (∀ (H : Heap) (locs : List Loc) (v : Int32) (w' : va_W) (pc : Nat) (ls : Array Slot), va_P D cl w' H → va_D A w' → va_S A s.heap H locs → decode cc pc = .ok (.ireturn, 1) → post v w' → W p l e rm s m args below meth c H locs rm.cells rm.slots Q (F0 m pc ls [.int v])) →
      zOutR l D cl rm pe p e s m args below meth c A Q → zThrR l D cl y cc maxL rm pe p e s m args below meth c A Q →
      W p l e rm s m args below meth c s.heap [] 0 0 Q (F0 m 0 ls [])) : zIX l D cl tys NW y ws rm as w post pe := by
  intro sz
  refine vx_ofW (cc := cc) (maxL := maxL) (ret := some .int) hy hw ?_
  intro p e s m args below meth c s₁ B hml hno hv
  have hsz := hv.1.2.1
  subst hsz
  obtain ⟨h1, h2⟩ := z_in hlen B hml hv.1
  rw [h2]
  obtain ⟨o1, o2⟩ := z_outs (y := y) (rm := rm) (pe := pe) (post := va_Qi post (zB D cl tys (va_A w s.heap.size)) (va_A w s.heap.size)) (args := args) (below := below) (e := e) hl9 B.exec B.bytes hml h1.2.2.2.1 h1.2.2.2.2.2.2.2.1 hv.2 hno B.notSynchronized
  exact body p e s m args below meth c _ _ _ h1 hv.2 (fun H locs v w' pc ls hP hD hS hd hp => vx_ret (z_iret B.exec B.bytes B.returns B.notSynchronized h1.2.2.2.2.2.2.2.1 hP hD hS hd hp)) o1 o2
theorem z_ofRX {post : Nat → va_W → Prop} {pe : String → va_W → Prop} {rn : String} (hl9 : l.stackTraces = false) (hy : plainName y.cls = true) (hw : ws = Cond.code y cc maxL (some (.object rn)) :: ws') (hlen : (lg_sl as).length ≤ maxL)
    (body : ∀ (p : Program) (e : Env) (s : State) (m : MethodId) (args : Array Value) (below : List Frame) (meth : Method) (c : Code) (A : Nat → Prop) (Q : State → Prop) (ls : Array Slot), zIn D cl tys NW y ws w cc maxL as p s m args meth c A ls → zTh A s s.heap →
      (∀ (H : Heap) (locs : List Loc) (v : Nat) (w' : va_W) (pc : Nat) (ls : Array Slot), va_P D cl w' H → va_D A w' → va_S A s.heap H locs → decode cc pc = .ok (.areturn, 1) → post v w' → W p l e rm s m args below meth c H locs rm.cells rm.slots Q (F0 m pc ls [.ref v])) →
      zOutR l D cl rm pe p e s m args below meth c A Q → zThrR l D cl y cc maxL rm pe p e s m args below meth c A Q →
      W p l e rm s m args below meth c s.heap [] 0 0 Q (F0 m 0 ls [])) : zRX l D cl tys NW y ws rm as w post pe := by
  intro sz
  refine vx_ofW (cc := cc) (maxL := maxL) (ret := some (.object rn)) hy hw ?_
  intro p e s m args below meth c s₁ B hml hno hv
  have hsz := hv.1.2.1
  subst hsz
  obtain ⟨h1, h2⟩ := z_in hlen B hml hv.1
  rw [h2]
  obtain ⟨o1, o2⟩ := z_outs (y := y) (rm := rm) (pe := pe) (post := va_Qr (fun _ : va_W => True) (fun u a t => post a u ∧ zB D cl tys (va_A w s.heap.size) u t) (va_A w s.heap.size)) (args := args) (below := below) (e := e) hl9 B.exec B.bytes hml h1.2.2.2.1 h1.2.2.2.2.2.2.2.1 hv.2 hno B.notSynchronized
  refine body p e s m args below meth c _ _ _ h1 hv.2 (fun H locs v w' pc ls hP hD hS hd hp => vx_ret ?_) o1 o2
  exact W.aret B.exec B.bytes B.returns (Or.inl ⟨rn, rfl⟩) (Or.inr ⟨v, rfl⟩) (fun t ht hW => ⟨⟨w', v, rfl, trivial, hp, by rw [ht]; exact hP, va_K.moved hW.alike h1.2.2.2.2.2.2.2.1, hD⟩, hS.F ht⟩) hS.2.2 hd B.notSynchronized
end Zxof
set_option maxRecDepth 100000 in
theorem zd_216 : (Cond.declares ⟨"java/lang/RuntimeException", "<init>", "()V"⟩ : Cond) ∈ zDW := List.mem_filter.mpr ⟨List.mem_of_getElem? (i := 216) (by decide +kernel), by decide +kernel⟩
set_option maxRecDepth 100000 in
theorem zd_217 : (Cond.declares ⟨"java/lang/RuntimeException", "<init>", "(Ljava/lang/String;)V"⟩ : Cond) ∈ zDW := List.mem_filter.mpr ⟨List.mem_of_getElem? (i := 217) (by decide +kernel), by decide +kernel⟩
set_option maxRecDepth 100000 in
theorem zd_218 : (Cond.declares ⟨"java/lang/Exception", "<init>", "()V"⟩ : Cond) ∈ zDW := List.mem_filter.mpr ⟨List.mem_of_getElem? (i := 218) (by decide +kernel), by decide +kernel⟩
set_option maxRecDepth 100000 in
theorem zd_219 : (Cond.declares ⟨"java/lang/Exception", "<init>", "(Ljava/lang/String;)V"⟩ : Cond) ∈ zDW := List.mem_filter.mpr ⟨List.mem_of_getElem? (i := 219) (by decide +kernel), by decide +kernel⟩
set_option maxRecDepth 100000 in
theorem zd_220 : (Cond.declares ⟨"java/lang/Throwable", "<init>", "()V"⟩ : Cond) ∈ zDW := List.mem_filter.mpr ⟨List.mem_of_getElem? (i := 220) (by decide +kernel), by decide +kernel⟩
set_option maxRecDepth 100000 in
theorem zd_221 : (Cond.declares ⟨"java/lang/Throwable", "<init>", "(Ljava/lang/String;)V"⟩ : Cond) ∈ zDW := List.mem_filter.mpr ⟨List.mem_of_getElem? (i := 221) (by decide +kernel), by decide +kernel⟩
set_option maxRecDepth 100000 in
theorem zat_66 {args : Array Value} {s : State} (hz : ∀ w ∈ zW, w.before args s = true) (hN : zN zNW s) (hD : ∀ w ∈ zDW, va_Nw w s) : ∀ w ∈ vx_atS RX4 66 "java/lang/IndexOutOfBoundsException" zEN, w.before args s = true := vx_hat (L := vx_atS RX4 66 "java/lang/IndexOutOfBoundsException" zEN) (B := [.castable "java/lang/IndexOutOfBoundsException" "java/lang/IndexOutOfBoundsException", .declares ⟨"java/lang/RuntimeException", "<init>", "(Ljava/lang/String;)V"⟩, .declares ⟨"java/lang/Exception", "<init>", "(Ljava/lang/String;)V"⟩, .declares ⟨"java/lang/Throwable", "<init>", "(Ljava/lang/String;)V"⟩]) (fun w hw => hz w ((by decide +kernel : ∀ w ∈ (vx_atS RX4 66 "java/lang/IndexOutOfBoundsException" zEN).filter goodWord, w ∈ zW) w hw)) (by decide +kernel) (vx_c (hN.use _ zn_215) (vx_c (va_Nw.use rfl (hD _ zd_217)) (vx_c (va_Nw.use rfl (hD _ zd_219)) (vx_c (va_Nw.use rfl (hD _ zd_221)) vx_n))))
set_option maxRecDepth 100000 in
theorem zat_81 {args : Array Value} {s : State} (hz : ∀ w ∈ zW, w.before args s = true) (hN : zN zNW s) (hD : ∀ w ∈ zDW, va_Nw w s) : ∀ w ∈ vx_atS RX4 81 "java/lang/IllegalStateException" zEN, w.before args s = true := vx_hat (L := vx_atS RX4 81 "java/lang/IllegalStateException" zEN) (B := [.castable "java/lang/IllegalStateException" "java/lang/IllegalStateException", .declares ⟨"java/lang/RuntimeException", "<init>", "(Ljava/lang/String;)V"⟩, .declares ⟨"java/lang/Exception", "<init>", "(Ljava/lang/String;)V"⟩, .declares ⟨"java/lang/Throwable", "<init>", "(Ljava/lang/String;)V"⟩]) (fun w hw => hz w ((by decide +kernel : ∀ w ∈ (vx_atS RX4 81 "java/lang/IllegalStateException" zEN).filter goodWord, w ∈ zW) w hw)) (by decide +kernel) (vx_c (hN.use _ zn_331) (vx_c (va_Nw.use rfl (hD _ zd_217)) (vx_c (va_Nw.use rfl (hD _ zd_219)) (vx_c (va_Nw.use rfl (hD _ zd_221)) vx_n))))
set_option maxRecDepth 100000 in
theorem zat_99 {args : Array Value} {s : State} (hz : ∀ w ∈ zW, w.before args s = true) (hN : zN zNW s) (hD : ∀ w ∈ zDW, va_Nw w s) : ∀ w ∈ vx_atS RX4 99 "java/lang/IllegalArgumentException" zEN, w.before args s = true := vx_hat (L := vx_atS RX4 99 "java/lang/IllegalArgumentException" zEN) (B := [.castable "java/lang/IllegalArgumentException" "java/lang/IllegalArgumentException", .declares ⟨"java/lang/RuntimeException", "<init>", "(Ljava/lang/String;)V"⟩, .declares ⟨"java/lang/Exception", "<init>", "(Ljava/lang/String;)V"⟩, .declares ⟨"java/lang/Throwable", "<init>", "(Ljava/lang/String;)V"⟩]) (fun w hw => hz w ((by decide +kernel : ∀ w ∈ (vx_atS RX4 99 "java/lang/IllegalArgumentException" zEN).filter goodWord, w ∈ zW) w hw)) (by decide +kernel) (vx_c (hN.use _ zn_356) (vx_c (va_Nw.use rfl (hD _ zd_217)) (vx_c (va_Nw.use rfl (hD _ zd_219)) (vx_c (va_Nw.use rfl (hD _ zd_221)) vx_n))))
