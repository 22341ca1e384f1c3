/-! ===== BASE: contracts over a world list, calls with the frame, returns (our own rows) ===== -/
theorem z_fm {α : Type} {is : List Nat} {f : Nat → Option α} {w : List α} (h : is.map f = w.map some) : is.filterMap f = w := by
  have e : is.filterMap f = (is.map f).filterMap id := by rw [List.filterMap_map]; rfl
  rw [e, h, List.filterMap_map]
  exact List.filterMap_some
/-- the words that aren't good ones: links of nest mates, casts, arrays of objects -/
def zNk (w : Cond) : Bool := match w with
  | .fieldLinkNest .. => true
  | .methodLinkNest .. => true
  | .castable .. => true
  | .arrayOver (.object _) => true
  | _ => false
theorem zNk_cases {w : Cond} (h : zNk w = true) : (∃ C, w = .arrayOver (.object C)) ∨ (∃ a i b n d k, w = .fieldLinkNest a i b n d k) ∨ (∃ a i x k, w = .methodLinkNest a i x k) ∨ (∃ C T, w = .castable C T) := by
  unfold zNk at h
  split at h
  · exact Or.inr (Or.inl ⟨_, _, _, _, _, _, rfl⟩)
  · exact Or.inr (Or.inr (Or.inl ⟨_, _, _, _, rfl⟩))
  · exact Or.inr (Or.inr (Or.inr ⟨_, _, rfl⟩))
  · exact Or.inl ⟨_, rfl⟩
  · cases h
theorem zNk_warm {w : Cond} {s U : State} (hk : zNk w = true) (hW : s.WarmedH U.vm) (h : va_Nw w s) : va_Nw w U := by
  rcases zNk_cases hk with ⟨C, rfl⟩ | ⟨_, _, _, _, _, _, rfl⟩ | ⟨_, _, _, _, rfl⟩ | ⟨_, _, rfl⟩
  · exact va_AO.moved hW.alike h
  · exact va_Nw.warmF hW h
  · exact va_Nw.warmM hW h
  · exact va_Nw.warmC hW h
theorem zNk_same {w : Cond} {s U : State} (hk : zNk w = true) (hv : s.vm = U.vm) (h : va_Nw w s) : va_Nw w U := by
  rcases zNk_cases hk with ⟨C, rfl⟩ | ⟨_, _, _, _, _, _, rfl⟩ | ⟨_, _, _, _, rfl⟩ | ⟨_, _, rfl⟩
  · exact va_AO.moved (by rw [hv]; exact Vm.Alike.refl _) h
  · exact va_Nw.same rfl hv h
  · exact va_Nw.same rfl hv h
  · exact va_Nw.same rfl hv h
theorem zNk_use {w : Cond} {s : State} {a : Array Value} (hk : zNk w = true) (h : va_Nw w s) : w.before a s = true := by
  rcases zNk_cases hk with ⟨C, rfl⟩ | ⟨_, _, _, _, _, _, rfl⟩ | ⟨_, _, _, _, rfl⟩ | ⟨_, _, rfl⟩
  · exact va_AO.use h
  · exact va_Nw.use rfl h
  · exact va_Nw.use rfl h
  · exact va_Nw.use rfl h
theorem zNk_of {w : Cond} {s : State} {a : Array Value} (hk : zNk w = true) (h : w.before a s = true) : va_Nw w s := by
  rcases zNk_cases hk with ⟨C, rfl⟩ | ⟨_, _, _, _, _, _, rfl⟩ | ⟨_, _, _, _, rfl⟩ | ⟨_, _, rfl⟩
  · exact va_AO.of h
  · exact va_Nw.of rfl h
  · exact va_Nw.of rfl h
  · exact va_Nw.of rfl h
def zN (NW : List Cond) (U : State) : Prop := ∀ w ∈ NW, zNk w = true ∧ va_Nw w U
theorem zN.warm {NW : List Cond} {s U : State} (hW : s.WarmedH U.vm) (h : zN NW s) : zN NW U := fun w hw => ⟨(h w hw).1, zNk_warm (h w hw).1 hW (h w hw).2⟩
theorem zN.same {NW : List Cond} {s U : State} (hv : s.vm = U.vm) (h : zN NW s) : zN NW U := fun w hw => ⟨(h w hw).1, zNk_same (h w hw).1 hv (h w hw).2⟩
theorem zN.use {NW : List Cond} {s : State} {a : Array Value} (h : zN NW s) (w : Cond) (hw : w ∈ NW) : w.before a s = true := zNk_use (h w hw).1 (h w hw).2
theorem zN.nw {NW : List Cond} {s : State} (h : zN NW s) (w : Cond) (hw : w ∈ NW) : va_Nw w s := (h w hw).2
/-- a contract's start and end over a world -/
def zP (D : va_G) (cl : List vw_C) (tys : List (ClassId × FieldType)) (NW : List Cond) (as : List Value) (w : va_W) (sz : Nat) : Array Value → State → Prop :=
  va_Pc as (fun U => U.heap.size = sz ∧ va_P D cl w U.heap ∧ va_K D cl tys U ∧ va_D (fun _ => True) w ∧ zN NW U)
def zB (D : va_G) (cl : List vw_C) (tys : List (ClassId × FieldType)) (A : Nat → Prop) (w : va_W) (t : State) : Prop :=
  va_P D cl w t.heap ∧ va_K D cl tys t ∧ va_D A w
theorem zP_blind {D : va_G} {cl : List vw_C} {tys : List (ClassId × FieldType)} {NW : List Cond} {as : List Value} {w : va_W} {sz : Nat} : FrameBlind (zP D cl tys NW as w sz) := by
  intro a U g mk q
  obtain ⟨q0, q1, qP, qK, qD, qN⟩ := q
  exact ⟨q0, q1, qP, va_K.moved (u := U) (U := U.calling g mk a) (Vm.Alike.refl U.vm) qK, qD, zN.same (s := U) (U := U.calling g mk a) rfl qN⟩
section Zcalls
variable {p : Program} {l : Launch} {e : Env} {R : Room} {s : State} {m : MethodId} {args : Array Value} {below : List Frame} {meth : Method} {c : Code} {H H0 : Heap} {locs : List Loc} {cells slots mc ms pc : Nat} {Q : State → Prop} {ls : Array Slot} {rest st0 : List Value} {A : Nat → Prop} {D : va_G} {cl : List vw_C} {X T cx wr w : va_W} {tys : List (ClassId × FieldType)} {NW : List Cond} {as As : List Value} {a : Array Value}
theorem z_left {k : Nat} {q : Nat × va_E} (h : X[k]? = some q) : (X ++ T)[k]? = some q := by
  rw [List.getElem?_append_left (List.getElem?_eq_some_iff.mp h).1]
  exact h
theorem z_Pl (hP : va_P D cl (X ++ T) H) : va_P D cl X H := fun k q h => hP k q (z_left h)
theorem z_Dl (hD : va_D A (X ++ T)) : va_D A X := ⟨fun i j p q h1 h2 => hD.1 i j p q (z_left h1) (z_left h2), fun k q h => hD.2 k q (z_left h)⟩
/-- the callee's start: cells of X and the tail T (P), or cells of X alone (Q) -/
theorem z_preP (hK : va_K D cl tys s) (hN : zN NW s) (hP : va_P D cl (X ++ T) H) (hD : va_D A (X ++ T)) (isC : List Nat) (hC : isC.map (fun i => X[i]?) = cx.map some) (hnd : va_nd isC = true) :
    ∀ U : State, U.heap = H → s.WarmedH U.vm → zP D cl tys NW as (cx ++ T) H.size as.toArray U := by
  intro U hU hW
  have hPc : va_P D cl (cx ++ T) H := hP.by _ (fun k q hk => va_part isC hC k q hk)
  have hDc : va_D A (cx ++ T) := hD.part isC hnd hC
  exact ⟨rfl, by rw [hU], by rw [hU]; exact hPc, va_K.moved hW.alike hK, hDc.weaken (fun _ _ _ _ => trivial), hN.warm hW⟩
theorem z_preQ (hK : va_K D cl tys s) (hN : zN NW s) (hP : va_P D cl (X ++ T) H) (hD : va_D A (X ++ T)) (isC : List Nat) (hC : isC.map (fun i => X[i]?) = cx.map some) (hnd : va_nd isC = true) :
    ∀ U : State, U.heap = H → s.WarmedH U.vm → zP D cl tys NW as cx H.size as.toArray U := by
  intro U hU hW
  have hPc : va_P D cl cx H := (z_Pl hP).sub isC (z_fm hC)
  have hDc : va_D A cx := (z_Dl hD).sub isC hnd hC
  exact ⟨rfl, by rw [hU], by rw [hU]; exact hPc, va_K.moved hW.alike hK, hDc.weaken (fun _ _ _ _ => trivial), hN.warm hW⟩
theorem z_recv {C : String} {b ci q0 : Nat} {fs : List Value} {q : vw_C} (hK : va_K D cl tys s) (hP : va_P D cl w H) (hc : cl[ci]? = some q) (hq : q.1 = C) (he : w[q0]? = some (b, .inr (ci, fs))) : ∃ cellB : Cell, H[b]? = some cellB ∧ cellB.vm.isStatics = false ∧ s.vm.findClass C = some cellB.cls := by
  subst hq
  exact va_recv hK hP hc he
theorem z_freeP (hD : va_D A (X ++ T)) (hS : va_S A H0 H locs) (hA : ∀ q, H0.size ≤ q → A q) (isC : List Nat) (hC : isC.map (fun i => X[i]?) = cx.map some) : ∀ q, va_A (cx ++ T) H.size q → A q := by
  intro q h
  rcases h with ⟨k, e9, h⟩ | h
  · exact hD.2 _ (q, e9) (va_part isC hC k (q, e9) h)
  · exact hA q (Nat.le_trans hS.1 h)
theorem z_freeQ (hD : va_D A (X ++ T)) (hS : va_S A H0 H locs) (hA : ∀ q, H0.size ≤ q → A q) (isC : List Nat) (hC : isC.map (fun i => X[i]?) = cx.map some) : ∀ q, va_A cx H.size q → A q := va_free (z_Dl hD) hS hA isC hC
theorem z_ciP {post : Int32 → va_W → Prop} (hP : va_P D cl (X ++ T) H) (hD : va_D A (X ++ T)) (hS : va_S A H0 H locs) (hA : ∀ q, H0.size ≤ q → A q) (isC isR : List Nat) (hC : isC.map (fun i => X[i]?) = cx.map some) (hR : isR.map (fun i => X[i]?) = wr.map some) (hn : va_nd isR = true) (hdis : ∀ i ∈ isR, i ∉ isC)
    (hr : va_Run p l e R s m args below meth c H locs cells slots mc ms (F0 m pc ls st0) rest (va_Qi post (zB D cl tys (va_A (cx ++ T) H.size)) (va_A (cx ++ T) H.size) a) (va_A (cx ++ T) H.size))
    (kk : ∀ (r : Int32) (w1 : va_W) (H1 : Heap) (locs1 : List Loc), post r w1 → (∀ rx T1 : va_W, w1 = rx ++ T1 → va_P D cl ((wr ++ rx) ++ T1) H1 ∧ va_D A ((wr ++ rx) ++ T1)) → va_S A H0 H1 locs1 → W p l e R s m args below meth c H1 locs1 (cells + mc) (slots + ms) Q (F0 m (pc + 3) ls (.int r :: rest))) :
    W p l e R s m args below meth c H locs cells slots Q (F0 m pc ls st0) := by
  have hFc := z_freeP hD hS hA isC hC
  refine va_calli hr hS (fun q _ h => hFc q h) hFc (fun r u t H1 locs1 ht hvm hw hB hz1 hk1 hS1 => ?_)
  refine kk r u H1 locs1 hw (fun rx T1 h => ?_) hS1
  obtain ⟨hP1, hK1, hD1⟩ := hB
  rw [ht] at hP1
  subst h
  exact va_joinP hP hD isC isR hC hR hn hdis hk1 hFc hP1 hD1
theorem z_cvP {post : va_W → Prop} (hP : va_P D cl (X ++ T) H) (hD : va_D A (X ++ T)) (hS : va_S A H0 H locs) (hA : ∀ q, H0.size ≤ q → A q) (isC isR : List Nat) (hC : isC.map (fun i => X[i]?) = cx.map some) (hR : isR.map (fun i => X[i]?) = wr.map some) (hn : va_nd isR = true) (hdis : ∀ i ∈ isR, i ∉ isC)
    (hr : va_Run p l e R s m args below meth c H locs cells slots mc ms (F0 m pc ls st0) rest (va_Qv post (zB D cl tys (va_A (cx ++ T) H.size)) (va_A (cx ++ T) H.size) a) (va_A (cx ++ T) H.size))
    (kk : ∀ (w1 : va_W) (H1 : Heap) (locs1 : List Loc), post w1 → (∀ rx T1 : va_W, w1 = rx ++ T1 → va_P D cl ((wr ++ rx) ++ T1) H1 ∧ va_D A ((wr ++ rx) ++ T1)) → va_S A H0 H1 locs1 → W p l e R s m args below meth c H1 locs1 (cells + mc) (slots + ms) Q (F0 m (pc + 3) ls rest)) :
    W p l e R s m args below meth c H locs cells slots Q (F0 m pc ls st0) := by
  have hFc := z_freeP hD hS hA isC hC
  refine va_callv hr hS (fun q _ h => hFc q h) hFc (fun u t H1 locs1 ht hvm hw hB hz1 hk1 hS1 => ?_)
  refine kk u H1 locs1 hw (fun rx T1 h => ?_) hS1
  obtain ⟨hP1, hK1, hD1⟩ := hB
  rw [ht] at hP1
  subst h
  exact va_joinP hP hD isC isR hC hR hn hdis hk1 hFc hP1 hD1
theorem z_ciQ {post : Int32 → va_W → Prop} (hP : va_P D cl (X ++ T) H) (hD : va_D A (X ++ T)) (hS : va_S A H0 H locs) (hA : ∀ q, H0.size ≤ q → A q) (isC isR : List Nat) (hC : isC.map (fun i => X[i]?) = cx.map some) (hR : isR.map (fun i => X[i]?) = wr.map some) (hn : va_nd isR = true) (hdis : ∀ i ∈ isR, i ∉ isC)
    (hr : va_Run p l e R s m args below meth c H locs cells slots mc ms (F0 m pc ls st0) rest (va_Qi post (zB D cl tys (va_A cx H.size)) (va_A cx H.size) a) (va_A cx H.size))
    (kk : ∀ (r : Int32) (w1 : va_W) (H1 : Heap) (locs1 : List Loc), post r w1 → va_P D cl ((wr ++ w1) ++ T) H1 → va_D A ((wr ++ w1) ++ T) → va_S A H0 H1 locs1 → W p l e R s m args below meth c H1 locs1 (cells + mc) (slots + ms) Q (F0 m (pc + 3) ls (.int r :: rest))) :
    W p l e R s m args below meth c H locs cells slots Q (F0 m pc ls st0) := by
  have hFc := z_freeQ hD hS hA isC hC
  refine va_calli hr hS (fun q _ h => hFc q h) hFc (fun r u t H1 locs1 ht hvm hw hB hz1 hk1 hS1 => ?_)
  obtain ⟨hP1, hK1, hD1⟩ := hB
  rw [ht] at hP1
  obtain ⟨g1, g2⟩ := va_joinQ hP hD isC isR hC hR hn hdis hk1 hFc hP1 hD1
  exact kk r u H1 locs1 hw g1 g2 hS1
theorem z_cvQ {post : va_W → Prop} (hP : va_P D cl (X ++ T) H) (hD : va_D A (X ++ T)) (hS : va_S A H0 H locs) (hA : ∀ q, H0.size ≤ q → A q) (isC isR : List Nat) (hC : isC.map (fun i => X[i]?) = cx.map some) (hR : isR.map (fun i => X[i]?) = wr.map some) (hn : va_nd isR = true) (hdis : ∀ i ∈ isR, i ∉ isC)
    (hr : va_Run p l e R s m args below meth c H locs cells slots mc ms (F0 m pc ls st0) rest (va_Qv post (zB D cl tys (va_A cx H.size)) (va_A cx H.size) a) (va_A cx H.size))
    (kk : ∀ (w1 : va_W) (H1 : Heap) (locs1 : List Loc), post w1 → va_P D cl ((wr ++ w1) ++ T) H1 → va_D A ((wr ++ w1) ++ T) → va_S A H0 H1 locs1 → W p l e R s m args below meth c H1 locs1 (cells + mc) (slots + ms) Q (F0 m (pc + 3) ls rest)) :
    W p l e R s m args below meth c H locs cells slots Q (F0 m pc ls st0) := by
  have hFc := z_freeQ hD hS hA isC hC
  refine va_callv hr hS (fun q _ h => hFc q h) hFc (fun u t H1 locs1 ht hvm hw hB hz1 hk1 hS1 => ?_)
  obtain ⟨hP1, hK1, hD1⟩ := hB
  rw [ht] at hP1
  obtain ⟨g1, g2⟩ := va_joinQ hP hD isC isR hC hR hn hdis hk1 hFc hP1 hD1
  exact kk u H1 locs1 hw g1 g2 hS1
/-- the ends of a method -/
theorem z_iret {cc : ByteArray} {post : Int32 → va_W → Prop} {v : Int32} (hx : p.tables.exec = Jvm.exec) (hb : c.code = cc) (hr : meth.sig.returnType = some .int) (hlocks : meth.locks = false) (hK : va_K D cl tys s) (hP : va_P D cl w H) (hD : va_D A w) (hS : va_S A s.heap H locs)
    (hdg : decode cc pc = .ok (.ireturn, 1)) (hp : post v w) : W p l e R s m args below meth c H locs cells slots (MQ below (va_Qi post (zB D cl tys A) A) args s cells slots A) (F0 m pc ls [.int v]) :=
  W.iret (v := v) hx hb hr (fun t ht hW => ⟨⟨v, w, rfl, hp, by rw [ht]; exact hP, va_K.moved hW.alike hK, hD⟩, hS.F ht⟩) hS.2.2 hdg hlocks
theorem z_zret {cc : ByteArray} {post : Int32 → va_W → Prop} {v : Int32} (hx : p.tables.exec = Jvm.exec) (hb : c.code = cc) (hr : meth.sig.returnType = some .boolean) (hlocks : meth.locks = false) (hn : narrow .boolean (.int v) = .int v) (hK : va_K D cl tys s) (hP : va_P D cl w H) (hD : va_D A w) (hS : va_S A s.heap H locs)
    (hdg : decode cc pc = .ok (.ireturn, 1)) (hp : post v w) : W p l e R s m args below meth c H locs cells slots (MQ below (va_Qi post (zB D cl tys A) A) args s cells slots A) (F0 m pc ls [.int v]) :=
  W.zret (v := v) hx hb hr hn (fun t ht hW => ⟨⟨v, w, rfl, hp, by rw [ht]; exact hP, va_K.moved hW.alike hK, hD⟩, hS.F ht⟩) hS.2.2 hdg hlocks
theorem z_vret {cc : ByteArray} {post : va_W → Prop} (hx : p.tables.exec = Jvm.exec) (hb : c.code = cc) (hr : meth.sig.returnType = none) (hlocks : meth.locks = false) (hK : va_K D cl tys s) (hP : va_P D cl w H) (hD : va_D A w) (hS : va_S A s.heap H locs)
    (hdg : decode cc pc = .ok (.return_, 1)) (hp : post w) : W p l e R s m args below meth c H locs cells slots (MQ below (va_Qv post (zB D cl tys A) A) args s cells slots A) (F0 m pc ls []) :=
  W.vret hx hb hr (fun t ht hW => ⟨⟨w, rfl, hp, by rw [ht]; exact hP, va_K.moved hW.alike hK, hD⟩, hS.F ht⟩) hS.2.2 hdg hlocks
end Zcalls
section Zarr
variable {p : Program} {l : Launch} {e : Env} {R : Room} {s : State} {m : MethodId} {args : Array Value} {below : List Frame} {meth : Method} {c : Code} {H H0 : Heap} {locs : List Loc} {cells slots pc : Nat} {Q : State → Prop} {ls : Array Slot} {rest : List Value} {A : Nat → Prop} {D : va_G} {cl : List vw_C} {X T w : va_W} {tys : List (ClassId × FieldType)} {cc : ByteArray}
theorem z_right {j : Nat} {q : Nat × va_E} (h : T[j]? = some q) : (X ++ T)[X.length + j]? = some q := by
  rw [List.getElem?_append_right (Nat.le_add_right _ _), Nat.add_sub_cancel_left]
  exact h
theorem z_iald (hexec : p.tables.exec = Jvm.exec) (hb : c.code = cc) (hK : va_K D cl tys s) (hP : va_P D cl w H) (q0 t0 : Nat) {cA : ClassId} {ad n k : Nat} {f : Nat → Int32} {v : Int32} (ha : w[q0]? = some (ad, .inl (cA, n, .inl f))) (ht : tys[t0]? = some (cA, .int)) (hk : k < n) (hn : n < 2 ^ 31) (hv : f k = v) (hdg : decode cc pc = .ok (.iaload, 1))
    (kk : W p l e R s m args below meth c H locs cells slots Q (F0 m (pc + 1) ls (.int v :: rest))) : W p l e R s m args below meth c H locs cells slots Q (F0 m pc ls (.int (nI k) :: .ref ad :: rest)) := by
  refine va_iald hexec hb hK hP q0 t0 ha ht (vp_in_nI hk hn) hdg ?_
  rw [nI_clamp (by omega), hv]
  exact kk
theorem z_lald (hexec : p.tables.exec = Jvm.exec) (hb : c.code = cc) (hK : va_K D cl tys s) (hP : va_P D cl w H) (q0 t0 : Nat) {cA : ClassId} {ad n k : Nat} {f : Nat → Int64} {v : Int64} (ha : w[q0]? = some (ad, .inl (cA, n, .inr (.inl f)))) (ht : tys[t0]? = some (cA, .long)) (hk : k < n) (hn : n < 2 ^ 31) (hv : f k = v) (hdg : decode cc pc = .ok (.laload, 1))
    (kk : W p l e R s m args below meth c H locs cells slots Q (F0 m (pc + 1) ls (.long v :: rest))) : W p l e R s m args below meth c H locs cells slots Q (F0 m pc ls (.int (nI k) :: .ref ad :: rest)) := by
  refine va_lald hexec hb hK hP q0 t0 ha ht (vp_in_nI hk hn) hdg ?_
  rw [nI_clamp (by omega), hv]
  exact kk
theorem z_aldq (hexec : p.tables.exec = Jvm.exec) (hb : c.code = cc) (hK : va_K D cl tys s) (hP : va_P D cl w H) (q0 t0 : Nat) {cA : ClassId} {C : String} {ad n k v : Nat} {f : Nat → Option Nat} (ha : w[q0]? = some (ad, .inl (cA, n, .inr (.inr (.inr (.inr f)))))) (ht : tys[t0]? = some (cA, .object C)) (hk : k < n) (hn : n < 2 ^ 31) (hv : f k = some v) (hdg : decode cc pc = .ok (.aaload, 1))
    (kk : W p l e R s m args below meth c H locs cells slots Q (F0 m (pc + 1) ls (.ref v :: rest))) : W p l e R s m args below meth c H locs cells slots Q (F0 m pc ls (.int (nI k) :: .ref ad :: rest)) := by
  refine va_aldq hexec hb hK hP q0 t0 ha ht (vp_in_nI hk hn) hdg ?_
  rw [nI_clamp (by omega), hv]
  exact kk
theorem z_iast (hexec : p.tables.exec = Jvm.exec) (hb : c.code = cc) (hK : va_K D cl tys s) (hP : va_P D cl w H) (hD : va_D A w) (hS : va_S A H0 H locs) (q0 t0 : Nat) {cA : ClassId} {ad n k : Nat} {f : Nat → Int32} {x : Int32} (ha : w[q0]? = some (ad, .inl (cA, n, .inl f))) (ht : tys[t0]? = some (cA, .int)) (hk : k < n) (hn : n < 2 ^ 31) (hdg : decode cc pc = .ok (.iastore, 1))
    (kk : ∀ (H1 : Heap) (locs1 : List Loc), va_P D cl (w.set q0 (ad, .inl (cA, n, .inl (upd f k x)))) H1 → va_D A (w.set q0 (ad, .inl (cA, n, .inl (upd f k x)))) → va_S A H0 H1 locs1 → W p l e R s m args below meth c H1 locs1 cells slots Q (F0 m (pc + 1) ls rest)) : W p l e R s m args below meth c H locs cells slots Q (F0 m pc ls (.int x :: .int (nI k) :: .ref ad :: rest)) := by
  refine va_iast hexec hb hK hP hD hS q0 t0 ha ht (vp_in_nI hk hn) hdg (fun H1 locs1 h1 h2 h3 => ?_)
  rw [nI_clamp (by omega)] at h1 h2
  exact kk H1 locs1 h1 h2 h3
theorem z_last (hexec : p.tables.exec = Jvm.exec) (hb : c.code = cc) (hK : va_K D cl tys s) (hP : va_P D cl w H) (hD : va_D A w) (hS : va_S A H0 H locs) (q0 t0 : Nat) {cA : ClassId} {ad n k : Nat} {f : Nat → Int64} {x : Int64} (ha : w[q0]? = some (ad, .inl (cA, n, .inr (.inl f)))) (ht : tys[t0]? = some (cA, .long)) (hk : k < n) (hn : n < 2 ^ 31) (hdg : decode cc pc = .ok (.lastore, 1))
    (kk : ∀ (H1 : Heap) (locs1 : List Loc), va_P D cl (w.set q0 (ad, .inl (cA, n, .inr (.inl (vp_updL f k x))))) H1 → va_D A (w.set q0 (ad, .inl (cA, n, .inr (.inl (vp_updL f k x))))) → va_S A H0 H1 locs1 → W p l e R s m args below meth c H1 locs1 cells slots Q (F0 m (pc + 1) ls rest)) : W p l e R s m args below meth c H locs cells slots Q (F0 m pc ls (.long x :: .int (nI k) :: .ref ad :: rest)) := by
  refine va_last hexec hb hK hP hD hS q0 t0 ha ht (vp_in_nI hk hn) hdg (fun H1 locs1 h1 h2 h3 => ?_)
  rw [nI_clamp (by omega)] at h1 h2
  exact kk H1 locs1 h1 h2 h3
end Zarr
/-! contracts, and how one is begun -/
def zI (l : Launch) (D : va_G) (cl : List vw_C) (tys : List (ClassId × FieldType)) (NW : List Cond) (y : MethodName) (ws : List Cond) (rm : Room) (as : List Value) (w : va_W) (post : Int32 → va_W → Prop) : Prop :=
  ∀ sz : Nat, Met l y ws rm (zP D cl tys NW as w sz) (va_Qi post (zB D cl tys (va_A w sz)) (va_A w sz)) rm.cells rm.slots (va_A w sz)
def zV (l : Launch) (D : va_G) (cl : List vw_C) (tys : List (ClassId × FieldType)) (NW : List Cond) (y : MethodName) (ws : List Cond) (rm : Room) (as : List Value) (w : va_W) (post : va_W → Prop) : Prop :=
  ∀ sz : Nat, Met l y ws rm (zP D cl tys NW as w sz) (va_Qv post (zB D cl tys (va_A w sz)) (va_A w sz)) rm.cells rm.slots (va_A w sz)
section Zof
variable {l : Launch} {D : va_G} {cl : List vw_C} {tys : List (ClassId × FieldType)} {NW : List Cond} {y : MethodName} {ws ws' : List Cond} {rm : Room} {as : List Value} {w : va_W} {cc : ByteArray} {maxL : Nat}
/-- what a method's body has at its entry -/
abbrev zIn (D : va_G) (cl : List vw_C) (tys : List (ClassId × FieldType)) (NW : List Cond) (y : MethodName) (ws : List Cond) (w : va_W) (cc : ByteArray) (maxL : Nat) (as : List Value) (p : Program) (s : State) (m : MethodId) (args : Array Value) (meth : Method) (c : Code) (A : Nat → Prop) (ls : Array Slot) : Prop :=
  p.tables.exec = Jvm.exec ∧ c.code = cc ∧ c.maxLocals = maxL ∧ s.vm.findClass y.cls = some m.cls ∧ (∀ w ∈ ws, w.before args s = true) ∧ meth.name = y.name ∧ (∀ q : Nat, s.heap.size ≤ q → A q) ∧ va_K D cl tys s ∧ zN NW s ∧ va_P D cl w s.heap ∧ va_D A w ∧ va_S A s.heap s.heap [] ∧ lv_has ls maxL (lv_args 0 as)
theorem z_in {p : Program} {e : Env} {s : State} {m : MethodId} {args : Array Value} {below : List Frame} {meth : Method} {c : Code} {s₁ : State} {ret : Option FieldType} (hlen : (lg_sl as).length ≤ maxL) (B : BodyLoose p l y (headSpec ws rm) cc maxL ret e s m args below meth c s₁) (hml : c.maxLocals = maxL) (hv : zP D cl tys NW as w s.heap.size args s) :
    zIn D cl tys NW y ws w cc maxL as p s m args meth c (va_A w s.heap.size) ((lg_sl as ++ List.replicate (maxL - (lg_sl as).length) Slot.unset).toArray) ∧ entryFrame m args maxL = F0 m 0 ((lg_sl as ++ List.replicate (maxL - (lg_sl as).length) Slot.unset).toArray) [] := by
  obtain ⟨har, -, hP, hK, hD0, hN⟩ := hv
  exact ⟨⟨B.exec, B.bytes, hml, findClass_of_methodNamed B.named, atoms_spec (ws := ws) B.pre, (name_of_methodNamed B.named B.method).1, fun q h => Or.inr h, hK, hN, hP, hD0.self, va_S.rf, lv_entry as hlen⟩, by rw [har]; exact lg_entry_eq m as maxL⟩
theorem z_ofI {post : Int32 → va_W → Prop} {rt : FieldType} (hrt : rt = .int ∨ (rt = .boolean ∧ ∀ v w, post v w → narrow .boolean (.int v) = .int v)) (hy : plainName y.cls = true) (hw : ws = Cond.code y cc maxL (some rt) :: ws') (hlen : (lg_sl as).length ≤ maxL)
    (body : ∀ (p : Program) (e : Env) (s : State) (m : MethodId) (args : Array Value) (below : List Frame) (meth : Method) (c : Code) (A : Nat → Prop) (Q : State → Prop) (ls : Array Slot), zIn D cl tys NW y ws w cc maxL as p s m args meth c A ls →
      (∀ (H : Heap) (locs : List Loc) (v : Int32) (w' : va_W) (pc : Nat) (ls : Array Slot), va_P D cl w' H → va_D A w' → va_S A s.heap H locs → decode cc pc = .ok (.ireturn, 1) → post v w' → W p l e rm s m args below meth c H locs rm.cells rm.slots Q (F0 m pc ls [.int v])) →
      W p l e rm s m args below meth c s.heap [] 0 0 Q (F0 m 0 ls [])) : zI l D cl tys NW y ws rm as w post := by
  intro sz
  refine Met.ofW (cc := cc) (maxL := maxL) (ret := some rt) hy hw ?_
  intro p e s m args below meth c s₁ B hml hv
  have hsz := hv.2.1
  subst hsz
  obtain ⟨h1, h2⟩ := z_in hlen B hml hv
  rw [h2]
  refine body p e s m args below meth c _ _ _ h1 (fun H locs v w' pc ls hP hD hS hd hp => ?_)
  rcases hrt with rfl | ⟨rfl, hn⟩
  · exact z_iret B.exec B.bytes B.returns B.notSynchronized h1.2.2.2.2.2.2.2.1 hP hD hS hd hp
  · exact z_zret B.exec B.bytes B.returns B.notSynchronized (hn v w' hp) h1.2.2.2.2.2.2.2.1 hP hD hS hd hp
theorem z_ofV {post : va_W → Prop} (hy : plainName y.cls = true) (hw : ws = Cond.code y cc maxL none :: ws') (hlen : (lg_sl as).length ≤ maxL)
    (body : ∀ (p : Program) (e : Env) (s : State) (m : MethodId) (args : Array Value) (below : List Frame) (meth : Method) (c : Code) (A : Nat → Prop) (Q : State → Prop) (ls : Array Slot), zIn D cl tys NW y ws w cc maxL as p s m args meth c A ls →
      (∀ (H : Heap) (locs : List Loc) (w' : va_W) (pc : Nat) (ls : Array Slot), va_P D cl w' H → va_D A w' → va_S A s.heap H locs → decode cc pc = .ok (.return_, 1) → post w' → W p l e rm s m args below meth c H locs rm.cells rm.slots Q (F0 m pc ls [])) →
      W p l e rm s m args below meth c s.heap [] 0 0 Q (F0 m 0 ls [])) : zV l D cl tys NW y ws rm as w post := by
  intro sz
  refine Met.ofW (cc := cc) (maxL := maxL) (ret := none) hy hw ?_
  intro p e s m args below meth c s₁ B hml hv
  have hsz := hv.2.1
  subst hsz
  obtain ⟨h1, h2⟩ := z_in hlen B hml hv
  rw [h2]
  exact body p e s m args below meth c _ _ _ h1 (fun H locs w' pc ls hP hD hS hd hp => z_vret B.exec B.bytes B.returns B.notSynchronized h1.2.2.2.2.2.2.2.1 hP hD hS hd hp)
end Zof
theorem z_setR {X T : va_W} {j : Nat} {v : Nat × va_E} : (X ++ T).set (X.length + j) v = X ++ T.set j v := by
  rw [List.set_append_right _ _ (Nat.le_add_right _ _), Nat.add_sub_cancel_left]
theorem z_permP {D : va_G} {cl : List vw_C} {X T cx : va_W} {H : Heap} (hP : va_P D cl (X ++ T) H) (is : List Nat) (hC : is.map (fun i => X[i]?) = cx.map some) : va_P D cl (cx ++ T) H := hP.by _ (fun k q hk => va_part is hC k q hk)
theorem z_permD {A : Nat → Prop} {X T cx : va_W} (hD : va_D A (X ++ T)) (is : List Nat) (hC : is.map (fun i => X[i]?) = cx.map some) (hn : va_nd is = true) : va_D A (cx ++ T) := hD.part is hn hC
section Znew
variable {p : Program} {l : Launch} {e : Env} {R : Room} {s : State} {m : MethodId} {args : Array Value} {below : List Frame} {meth : Method} {c : Code} {H H0 : Heap} {locs : List Loc} {cells slots pc : Nat} {Q : State → Prop} {ls : Array Slot} {rest : List Value} {A : Nat → Prop} {D : va_G} {cl : List vw_C} {w : va_W} {tys : List (ClassId × FieldType)} {cc : ByteArray}
theorem z_newi (hexec : p.tables.exec = Jvm.exec) (hb : c.code = cc) (harr : (Cond.arrayClass .int).before args s = true) (hK : va_K D cl tys s) (hP : va_P D cl w H) (hD : va_D A w) (hS : va_S A H0 H locs) (hA : ∀ q, H0.size ≤ q → A q) (N' t0 : Nat) {cI : ClassId} (ht : tys[t0]? = some (cI, .int)) (hn : N' ≤ 65536) (hcells : cells + 1 ≤ R.cells) (hslots : slots + N' ≤ R.slots) (hdg : decode cc pc = .ok (.newarray .int, 2))
    (kk : ∀ (q : Nat) (H1 : Heap), va_P D cl (w ++ [(q, .inl (cI, N', .inl (fun _ => 0)))]) H1 → va_D A (w ++ [(q, .inl (cI, N', .inl (fun _ => 0)))]) → va_S A H0 H1 locs → W p l e R s m args below meth c H1 locs (cells + 1) (slots + N') Q (F0 m (pc + 2) ls (.ref q :: rest))) : W p l e R s m args below meth c H locs cells slots Q (F0 m pc ls (.int (nI N') :: rest)) := by
  refine va_newa (atype := .int) (N' := N') (a0 := (N', .inl (fun _ => 0))) (ty := .int) (n := nI N') hexec hb harr rfl hK hP hD hS hA (fun _ => rfl) (nI_pos (by omega)) (nI_clamp (by omega)) (Nat.le_trans (Nat.mul_le_mul_right _ hn) (by decide)) hcells hslots hdg (fun q cA H1 hK1 hP1 hD1 hS1 => ?_)
  have h1 := va_nm_int (hK.2 t0 _ ht).2
  have h2 := va_nm_int (hK1.2 tys.length (cA, .int) (by simp)).2
  have h3 : cA = cI := Option.some.inj (h2.symm.trans h1)
  subst h3
  exact kk q H1 hP1 hD1 hS1
theorem z_newl (hexec : p.tables.exec = Jvm.exec) (hb : c.code = cc) (harr : (Cond.arrayClass .long).before args s = true) (hK : va_K D cl tys s) (hP : va_P D cl w H) (hD : va_D A w) (hS : va_S A H0 H locs) (hA : ∀ q, H0.size ≤ q → A q) (N' t0 : Nat) {cJ : ClassId} (ht : tys[t0]? = some (cJ, .long)) (hn : N' ≤ 65536) (hcells : cells + 1 ≤ R.cells) (hslots : slots + N' ≤ R.slots) (hdg : decode cc pc = .ok (.newarray .long, 2))
    (kk : ∀ (q : Nat) (H1 : Heap), va_P D cl (w ++ [(q, .inl (cJ, N', .inr (.inl (fun _ => 0))))]) H1 → va_D A (w ++ [(q, .inl (cJ, N', .inr (.inl (fun _ => 0))))]) → va_S A H0 H1 locs → W p l e R s m args below meth c H1 locs (cells + 1) (slots + N') Q (F0 m (pc + 2) ls (.ref q :: rest))) : W p l e R s m args below meth c H locs cells slots Q (F0 m pc ls (.int (nI N') :: rest)) := by
  refine va_newa (atype := .long) (N' := N') (a0 := (N', .inr (.inl (fun _ => 0)))) (ty := .long) (n := nI N') hexec hb harr rfl hK hP hD hS hA (fun _ => rfl) (nI_pos (by omega)) (nI_clamp (by omega)) (Nat.le_trans (Nat.mul_le_mul_right _ hn) (by decide)) hcells hslots hdg (fun q cA H1 hK1 hP1 hD1 hS1 => ?_)
  have h1 := va_nm_long (hK.2 t0 _ ht).2
  have h2 := va_nm_long (hK1.2 tys.length (cA, .long) (by simp)).2
  have h3 : cA = cJ := Option.some.inj (h2.symm.trans h1)
  subst h3
  exact kk q H1 hP1 hD1 hS1
end Znew
section Znewq
variable {p : Program} {l : Launch} {e : Env} {R : Room} {s : State} {m : MethodId} {args : Array Value} {below : List Frame} {meth : Method} {c : Code} {H H0 : Heap} {locs : List Loc} {cells slots pc : Nat} {Q : State → Prop} {ls : Array Slot} {rest : List Value} {A : Nat → Prop} {D : va_G} {cl : List vw_C} {w : va_W} {tys : List (ClassId × FieldType)} {cc : ByteArray}
theorem z_newq {own C : String} {index : Nat} (hexec : p.tables.exec = Jvm.exec) (hb : c.code = cc) (hown : s.vm.findClass own = some m.cls) (hclink : (Cond.classLink own index C).before args s = true) (hover : va_AO C s) (hK : va_K D cl tys s) (hP : va_P D cl w H) (hD : va_D A w) (hS : va_S A H0 H locs) (hA : ∀ q, H0.size ≤ q → A q) (N' t0 : Nat) {cR : ClassId} (ht : tys[t0]? = some (cR, .object C)) (hn : N' ≤ 65536) (hcells : cells + 1 ≤ R.cells) (hslots : slots + N' ≤ R.slots) (hdg : decode cc pc = .ok (.anewarray index, 3))
    (kk : ∀ (q : Nat) (H1 : Heap), va_P D cl (w ++ [(q, .inl (cR, N', .inr (.inr (.inr (.inr (fun _ => none))))))]) H1 → va_D A (w ++ [(q, .inl (cR, N', .inr (.inr (.inr (.inr (fun _ => none))))))]) → va_S A H0 H1 locs → W p l e R s m args below meth c H1 locs (cells + 1) (slots + N') Q (F0 m (pc + 3) ls (.ref q :: rest))) : W p l e R s m args below meth c H locs cells slots Q (F0 m pc ls (.int (nI N') :: rest)) := by
  refine va_newq (C := C) (N' := N') (n := nI N') hexec hb hown hclink hover hK hP hD hS hA (nI_pos (by omega)) (nI_clamp (by omega)) (by omega) hcells hslots hdg (fun q cA H1 hK1 hP1 hD1 hS1 => ?_)
  obtain ⟨k1, c1, -, -, -, h1⟩ := (hK.2 t0 _ ht).2
  obtain ⟨k2, c2, -, -, -, h2⟩ := (hK1.2 tys.length (cA, .object C) (by simp)).2
  have h3 : cA = cR := Option.some.inj (h2.symm.trans h1)
  subst h3
  exact kk q H1 hP1 hD1 hS1
theorem z_astq (hexec : p.tables.exec = Jvm.exec) (hb : c.code = cc) (hK : va_K D cl tys s) (hP : va_P D cl w H) (hD : va_D A w) (hS : va_S A H0 H locs) (q0 t0 qk ci : Nat) {cA : ClassId} {r : vw_C} {ad n k v : Nat} {vs : List Value} {f : Nat → Option Nat} (ha : w[q0]? = some (ad, .inl (cA, n, .inr (.inr (.inr (.inr f)))))) (ht : tys[t0]? = some (cA, .object r.1)) (hv : w[qk]? = some (v, .inr (ci, vs))) (hc : cl[ci]? = some r) (hk : k < n) (hn : n < 2 ^ 31) (hdg : decode cc pc = .ok (.aastore, 1))
    (kk : ∀ (H1 : Heap) (locs1 : List Loc), va_P D cl (w.set q0 (ad, .inl (cA, n, .inr (.inr (.inr (.inr (va_up f k (some v)))))))) H1 → va_D A (w.set q0 (ad, .inl (cA, n, .inr (.inr (.inr (.inr (va_up f k (some v)))))))) → va_S A H0 H1 locs1 → W p l e R s m args below meth c H1 locs1 cells slots Q (F0 m (pc + 1) ls rest)) : W p l e R s m args below meth c H locs cells slots Q (F0 m pc ls (.ref v :: .int (nI k) :: .ref ad :: rest)) := by
  refine va_astq hexec hb hK hP hD hS q0 t0 qk ci ha ht hv hc (vp_in_nI hk hn) hdg (fun H1 locs1 h1 h2 h3 => ?_)
  rw [nI_clamp (by omega)] at h1 h2
  exact kk H1 locs1 h1 h2 h3
end Znewq
