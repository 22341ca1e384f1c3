/-! ===== MBASE: arrays of bytes, shorts, booleans; small numbers under the casts ===== -/
abbrev zTm (cI cS cB cZ : ClassId) : List (ClassId × FieldType) := [(cI, .int), (cS, .short), (cB, .byte), (cZ, .boolean)]
theorem b8 : ∀ k, k < 128 → (nI k).toInt8.toInt32 = nI k := by decide +kernel
theorem s16 : ∀ k, k < 256 → (nI k).toInt16.toInt32 = nI k := by decide +kernel
theorem n8 {k : Nat} (h : k < 128) : vp_nar .byte (nI k) = nI k := by rw [vp_nar_byte]; exact b8 k h
theorem n8m : vp_nar .byte (-1) = -1 := by decide
theorem n16 {k : Nat} (h : k < 256) : vp_nar .short (nI k) = nI k := by rw [vp_nar_short]; exact s16 k h
theorem nz0 : vp_nar .boolean (nI 0) = nI 0 := by decide
theorem nz1 : vp_nar .boolean (nI 1) = nI 1 := by decide
section Zm
variable {p : Program} {l : Launch} {e : Env} {R : Room} {s : State} {m : MethodId} {args : Array Value} {below : List Frame} {meth : Method} {c : Code} {H H0 : Heap} {locs : List Loc} {cells slots pc : Nat} {Q : State → Prop} {ls : Array Slot} {rest : List Value} {A : Nat → Prop} {D : va_G} {cl : List vw_C} {w : va_W} {tys : List (ClassId × FieldType)} {cc : ByteArray}
theorem z_bald (hexec : p.tables.exec = Jvm.exec) (hb : c.code = cc) (hK : va_K D cl tys s) (hP : va_P D cl w H) (q0 t0 : Nat) {cA : ClassId} {ad n k : Nat} {f : Nat → Int32} {v : Int32} (ha : w[q0]? = some (ad, .inl (cA, n, .inl f))) (ht : tys[t0]? = some (cA, .byte)) (hk : k < n) (hn : n < 2 ^ 31) (hv : f k = v) (hdg : decode cc pc = .ok (.baload, 1))
    (kk : W p l e R s m args below meth c H locs cells slots Q (F0 m (pc + 1) ls (.int v :: rest))) : W p l e R s m args below meth c H locs cells slots Q (F0 m pc ls (.int (nI k) :: .ref ad :: rest)) := by
  refine va_bald hexec hb hK hP q0 t0 ha ht (vp_in_nI hk hn) hdg ?_
  rw [nI_clamp (by omega), hv]
  exact kk
theorem z_bast (hexec : p.tables.exec = Jvm.exec) (hb : c.code = cc) (hK : va_K D cl tys s) (hP : va_P D cl w H) (hD : va_D A w) (hS : va_S A H0 H locs) (q0 t0 : Nat) {cA : ClassId} {ad n k : Nat} {f : Nat → Int32} {x : Int32} (ha : w[q0]? = some (ad, .inl (cA, n, .inl f))) (ht : tys[t0]? = some (cA, .byte)) (hk : k < n) (hn : n < 2 ^ 31) (hnar : vp_nar .byte x = x) (hdg : decode cc pc = .ok (.bastore, 1))
    (kk : ∀ (H1 : Heap) (locs1 : List Loc), va_P D cl (w.set q0 (ad, .inl (cA, n, .inl (upd f k x)))) H1 → va_D A (w.set q0 (ad, .inl (cA, n, .inl (upd f k x)))) → va_S A H0 H1 locs1 → W p l e R s m args below meth c H1 locs1 cells slots Q (F0 m (pc + 1) ls rest)) : W p l e R s m args below meth c H locs cells slots Q (F0 m pc ls (.int x :: .int (nI k) :: .ref ad :: rest)) := by
  refine va_bast hexec hb hK hP hD hS q0 t0 ha ht (vp_in_nI hk hn) hdg (fun H1 locs1 h1 h2 h3 => ?_)
  rw [nI_clamp (by omega), hnar] at h1 h2
  exact kk H1 locs1 h1 h2 h3
theorem z_newb (hexec : p.tables.exec = Jvm.exec) (hb : c.code = cc) (harr : (Cond.arrayClass .byte).before args s = true) (hK : va_K D cl tys s) (hP : va_P D cl w H) (hD : va_D A w) (hS : va_S A H0 H locs) (hA : ∀ q, H0.size ≤ q → A q) (N' t0 : Nat) {cI : ClassId} (ht : tys[t0]? = some (cI, .byte)) (hn : N' ≤ 65536) (hcells : cells + 1 ≤ R.cells) (hslots : slots + N' ≤ R.slots) (hdg : decode cc pc = .ok (.newarray .byte, 2))
    (kk : ∀ (q : Nat) (H1 : Heap), va_P D cl (w ++ [(q, .inl (cI, N', .inl (fun _ => 0)))]) H1 → va_D A (w ++ [(q, .inl (cI, N', .inl (fun _ => 0)))]) → va_S A H0 H1 locs → W p l e R s m args below meth c H1 locs (cells + 1) (slots + N') Q (F0 m (pc + 2) ls (.ref q :: rest))) : W p l e R s m args below meth c H locs cells slots Q (F0 m pc ls (.int (nI N') :: rest)) := by
  refine va_newa (atype := .byte) (N' := N') (a0 := (N', .inl (fun _ => 0))) (ty := .byte) (n := nI N') hexec hb harr rfl hK hP hD hS hA (fun _ => rfl) (nI_pos (by omega)) (nI_clamp (by omega)) (Nat.le_trans (Nat.mul_le_mul_right _ hn) (by decide)) hcells hslots hdg (fun q cA H1 hK1 hP1 hD1 hS1 => ?_)
  have h1 : s.vm.findClass _ = some cI := (hK.2 t0 _ ht).2
  have h2 : s.vm.findClass _ = some cA := (hK1.2 tys.length (cA, .byte) (by simp)).2
  have h3 : cA = cI := Option.some.inj (h2.symm.trans h1)
  subst h3
  exact kk q H1 hP1 hD1 hS1
theorem z_sald (hexec : p.tables.exec = Jvm.exec) (hb : c.code = cc) (hK : va_K D cl tys s) (hP : va_P D cl w H) (q0 t0 : Nat) {cA : ClassId} {ad n k : Nat} {f : Nat → Int32} {v : Int32} (ha : w[q0]? = some (ad, .inl (cA, n, .inl f))) (ht : tys[t0]? = some (cA, .short)) (hk : k < n) (hn : n < 2 ^ 31) (hv : f k = v) (hdg : decode cc pc = .ok (.saload, 1))
    (kk : W p l e R s m args below meth c H locs cells slots Q (F0 m (pc + 1) ls (.int v :: rest))) : W p l e R s m args below meth c H locs cells slots Q (F0 m pc ls (.int (nI k) :: .ref ad :: rest)) := by
  refine va_sald hexec hb hK hP q0 t0 ha ht (vp_in_nI hk hn) hdg ?_
  rw [nI_clamp (by omega), hv]
  exact kk
theorem z_sast (hexec : p.tables.exec = Jvm.exec) (hb : c.code = cc) (hK : va_K D cl tys s) (hP : va_P D cl w H) (hD : va_D A w) (hS : va_S A H0 H locs) (q0 t0 : Nat) {cA : ClassId} {ad n k : Nat} {f : Nat → Int32} {x : Int32} (ha : w[q0]? = some (ad, .inl (cA, n, .inl f))) (ht : tys[t0]? = some (cA, .short)) (hk : k < n) (hn : n < 2 ^ 31) (hnar : vp_nar .short x = x) (hdg : decode cc pc = .ok (.sastore, 1))
    (kk : ∀ (H1 : Heap) (locs1 : List Loc), va_P D cl (w.set q0 (ad, .inl (cA, n, .inl (upd f k x)))) H1 → va_D A (w.set q0 (ad, .inl (cA, n, .inl (upd f k x)))) → va_S A H0 H1 locs1 → W p l e R s m args below meth c H1 locs1 cells slots Q (F0 m (pc + 1) ls rest)) : W p l e R s m args below meth c H locs cells slots Q (F0 m pc ls (.int x :: .int (nI k) :: .ref ad :: rest)) := by
  refine va_sast hexec hb hK hP hD hS q0 t0 ha ht (vp_in_nI hk hn) hdg (fun H1 locs1 h1 h2 h3 => ?_)
  rw [nI_clamp (by omega), hnar] at h1 h2
  exact kk H1 locs1 h1 h2 h3
theorem z_news (hexec : p.tables.exec = Jvm.exec) (hb : c.code = cc) (harr : (Cond.arrayClass .short).before args s = true) (hK : va_K D cl tys s) (hP : va_P D cl w H) (hD : va_D A w) (hS : va_S A H0 H locs) (hA : ∀ q, H0.size ≤ q → A q) (N' t0 : Nat) {cI : ClassId} (ht : tys[t0]? = some (cI, .short)) (hn : N' ≤ 65536) (hcells : cells + 1 ≤ R.cells) (hslots : slots + N' ≤ R.slots) (hdg : decode cc pc = .ok (.newarray .short, 2))
    (kk : ∀ (q : Nat) (H1 : Heap), va_P D cl (w ++ [(q, .inl (cI, N', .inl (fun _ => 0)))]) H1 → va_D A (w ++ [(q, .inl (cI, N', .inl (fun _ => 0)))]) → va_S A H0 H1 locs → W p l e R s m args below meth c H1 locs (cells + 1) (slots + N') Q (F0 m (pc + 2) ls (.ref q :: rest))) : W p l e R s m args below meth c H locs cells slots Q (F0 m pc ls (.int (nI N') :: rest)) := by
  refine va_newa (atype := .short) (N' := N') (a0 := (N', .inl (fun _ => 0))) (ty := .short) (n := nI N') hexec hb harr rfl hK hP hD hS hA (fun _ => rfl) (nI_pos (by omega)) (nI_clamp (by omega)) (Nat.le_trans (Nat.mul_le_mul_right _ hn) (by decide)) hcells hslots hdg (fun q cA H1 hK1 hP1 hD1 hS1 => ?_)
  have h1 : s.vm.findClass _ = some cI := (hK.2 t0 _ ht).2
  have h2 : s.vm.findClass _ = some cA := (hK1.2 tys.length (cA, .short) (by simp)).2
  have h3 : cA = cI := Option.some.inj (h2.symm.trans h1)
  subst h3
  exact kk q H1 hP1 hD1 hS1
theorem z_zald (hexec : p.tables.exec = Jvm.exec) (hb : c.code = cc) (hK : va_K D cl tys s) (hP : va_P D cl w H) (q0 t0 : Nat) {cA : ClassId} {ad n k : Nat} {f : Nat → Int32} {v : Int32} (ha : w[q0]? = some (ad, .inl (cA, n, .inl f))) (ht : tys[t0]? = some (cA, .boolean)) (hk : k < n) (hn : n < 2 ^ 31) (hv : f k = v) (hdg : decode cc pc = .ok (.baload, 1))
    (kk : W p l e R s m args below meth c H locs cells slots Q (F0 m (pc + 1) ls (.int v :: rest))) : W p l e R s m args below meth c H locs cells slots Q (F0 m pc ls (.int (nI k) :: .ref ad :: rest)) := by
  refine va_zald hexec hb hK hP q0 t0 ha ht (vp_in_nI hk hn) hdg ?_
  rw [nI_clamp (by omega), hv]
  exact kk
theorem z_zast (hexec : p.tables.exec = Jvm.exec) (hb : c.code = cc) (hK : va_K D cl tys s) (hP : va_P D cl w H) (hD : va_D A w) (hS : va_S A H0 H locs) (q0 t0 : Nat) {cA : ClassId} {ad n k : Nat} {f : Nat → Int32} {x : Int32} (ha : w[q0]? = some (ad, .inl (cA, n, .inl f))) (ht : tys[t0]? = some (cA, .boolean)) (hk : k < n) (hn : n < 2 ^ 31) (hnar : vp_nar .boolean x = x) (hdg : decode cc pc = .ok (.bastore, 1))
    (kk : ∀ (H1 : Heap) (locs1 : List Loc), va_P D cl (w.set q0 (ad, .inl (cA, n, .inl (upd f k x)))) H1 → va_D A (w.set q0 (ad, .inl (cA, n, .inl (upd f k x)))) → va_S A H0 H1 locs1 → W p l e R s m args below meth c H1 locs1 cells slots Q (F0 m (pc + 1) ls rest)) : W p l e R s m args below meth c H locs cells slots Q (F0 m pc ls (.int x :: .int (nI k) :: .ref ad :: rest)) := by
  refine va_zast hexec hb hK hP hD hS q0 t0 ha ht (vp_in_nI hk hn) hdg (fun H1 locs1 h1 h2 h3 => ?_)
  rw [nI_clamp (by omega), hnar] at h1 h2
  exact kk H1 locs1 h1 h2 h3
theorem z_newz (hexec : p.tables.exec = Jvm.exec) (hb : c.code = cc) (harr : (Cond.arrayClass .boolean).before args s = true) (hK : va_K D cl tys s) (hP : va_P D cl w H) (hD : va_D A w) (hS : va_S A H0 H locs) (hA : ∀ q, H0.size ≤ q → A q) (N' t0 : Nat) {cI : ClassId} (ht : tys[t0]? = some (cI, .boolean)) (hn : N' ≤ 65536) (hcells : cells + 1 ≤ R.cells) (hslots : slots + N' ≤ R.slots) (hdg : decode cc pc = .ok (.newarray .boolean, 2))
    (kk : ∀ (q : Nat) (H1 : Heap), va_P D cl (w ++ [(q, .inl (cI, N', .inl (fun _ => 0)))]) H1 → va_D A (w ++ [(q, .inl (cI, N', .inl (fun _ => 0)))]) → va_S A H0 H1 locs → W p l e R s m args below meth c H1 locs (cells + 1) (slots + N') Q (F0 m (pc + 2) ls (.ref q :: rest))) : W p l e R s m args below meth c H locs cells slots Q (F0 m pc ls (.int (nI N') :: rest)) := by
  refine va_newa (atype := .boolean) (N' := N') (a0 := (N', .inl (fun _ => 0))) (ty := .boolean) (n := nI N') hexec hb harr rfl hK hP hD hS hA (fun _ => rfl) (nI_pos (by omega)) (nI_clamp (by omega)) (Nat.le_trans (Nat.mul_le_mul_right _ hn) (by decide)) hcells hslots hdg (fun q cA H1 hK1 hP1 hD1 hS1 => ?_)
  have h1 : s.vm.findClass _ = some cI := (hK.2 t0 _ ht).2
  have h2 : s.vm.findClass _ = some cA := (hK1.2 tys.length (cA, .boolean) (by simp)).2
  have h3 : cA = cI := Option.some.inj (h2.symm.trans h1)
  subst h3
  exact kk q H1 hP1 hD1 hS1
end Zm
