/-! ===== LBASE: methods with a table of their own that let nothing out ===== -/
abbrev eIOB : String := "java/lang/IndexOutOfBoundsException"
abbrev eISE : String := "java/lang/IllegalStateException"
abbrev eIAE : String := "java/lang/IllegalArgumentException"
def zNc (U : State) : Prop := va_Nc eISE eIOB U ∧ va_Nc eIAE eIOB U ∧ va_Nc eISE eIAE U
theorem zNc.moved {u U : State} (hvm : u.vm.Alike U.vm) (h : zNc u) : zNc U := ⟨va_Nc.moved hvm h.1, va_Nc.moved hvm h.2.1, va_Nc.moved hvm h.2.2⟩
def zPh (D : va_G) (cl : List vw_C) (tys : List (ClassId × FieldType)) (NW : List Cond) (as : List Value) (w : va_W) (sz : Nat) : Array Value → State → Prop := fun v U => zPx D cl tys NW as w sz v U ∧ zNc U
theorem zPh_blind {D : va_G} {cl : List vw_C} {tys : List (ClassId × FieldType)} {NW : List Cond} {as : List Value} {w : va_W} {sz : Nat} : FrameBlind (zPh D cl tys NW as w sz) := fun a U g mk q => ⟨zPx_blind a U g mk q.1, zNc.moved (u := U) (U := U.calling g mk a) (Vm.Alike.refl U.vm) q.2⟩
def zIH (l : Launch) (D : va_G) (cl : List vw_C) (tys : List (ClassId × FieldType)) (NW : List Cond) (y : MethodName) (ws : List Cond) (rm : Room) (as : List Value) (w : va_W) (post : Int32 → va_W → Prop) : Prop :=
  ∀ sz : Nat, Met l y ws rm (zPh D cl tys NW as w sz) (va_Qi post (zB D cl tys (va_A w sz)) (va_A w sz)) rm.cells rm.slots (va_A w sz)
theorem z_ofIH {l : Launch} {D : va_G} {cl : List vw_C} {tys : List (ClassId × FieldType)} {NW : List Cond} {y : MethodName} {ws ws' : List Cond} {rm : Room} {as : List Value} {w : va_W} {cc : ByteArray} {maxL : Nat} {hh : List (Nat × Nat × Nat × Nat)} {post : Int32 → va_W → Prop} (hy : plainName y.cls = true) (hw : ws = Cond.codeWith y cc maxL (some .int) hh :: ws') (hlen : (lg_sl as).length ≤ maxL)
    (body : ∀ (p : Program) (e : Env) (s : State) (m : MethodId) (args : Array Value) (below : List Frame) (meth : Method) (c : Code) (A : Nat → Prop) (Q : State → Prop) (ls : Array Slot), zIn D cl tys NW y ws w cc maxL as p s m args meth c A ls → zTh A s s.heap → zNc s → c.exceptionTable.toList = tableOf hh →
      (∀ (H : Heap) (locs : List Loc) (v : Int32) (w' : va_W) (pc : Nat) (ls : Array Slot), va_P D cl w' H → va_D A w' → va_S A s.heap H locs → decode cc pc = .ok (.ireturn, 1) → post v w' → W p l e rm s m args below meth c H locs rm.cells rm.slots Q (F0 m pc ls [.int v])) →
      W p l e rm s m args below meth c s.heap [] 0 0 Q (F0 m 0 ls [])) : zIH l D cl tys NW y ws rm as w post := by
  intro sz
  refine va_MetW (cc := cc) (maxL := maxL) (ret := some .int) (hh := hh) hy hw ?_
  intro p e s m args below meth c s₁ B hml hv
  have hsz := hv.1.1.2.1
  subst hsz
  obtain ⟨h1, h2⟩ := z_in hlen B hml hv.1.1
  rw [h2]
  exact body p e s m args below meth c _ _ _ h1 hv.1.2 hv.2 (vx_table (x := y) B (h1.2.2.2.2.1 _ (by rw [hw]; exact List.mem_cons_self))) (fun H locs v w' pc ls hP hD hS hd hp => z_iret B.exec B.bytes B.returns B.notSynchronized h1.2.2.2.2.2.2.2.1 hP hD hS hd hp)
set_option maxRecDepth 100000 in
theorem zw_203 : (Cond.codeWith yL_number cL_number 5 (some .int) [(0, 10, 13, 13)] : Cond) ∈ zW := List.mem_filter.mpr ⟨List.mem_of_getElem? (i := 203) (by decide +kernel), by decide +kernel⟩
abbrev wsL_number : List Cond := .codeWith yL_number cL_number 5 (some .int) [(0, 10, 13, 13)] :: zW
set_option maxRecDepth 100000 in
theorem zw_284 : (Cond.codeWith yL_diff cL_diff 5 (some .int) [(0, 10, 13, 13), (0, 10, 17, 18)] : Cond) ∈ zW := List.mem_filter.mpr ⟨List.mem_of_getElem? (i := 284) (by decide +kernel), by decide +kernel⟩
abbrev wsL_diff : List Cond := .codeWith yL_diff cL_diff 5 (some .int) [(0, 10, 13, 13), (0, 10, 17, 18)] :: zW
set_option maxRecDepth 100000 in
theorem zw_347 : (Cond.codeWith yL_step cL_step 5 (some .int) [(0, 10, 13, 13), (0, 10, 17, 23)] : Cond) ∈ zW := List.mem_filter.mpr ⟨List.mem_of_getElem? (i := 347) (by decide +kernel), by decide +kernel⟩
abbrev wsL_step : List Cond := .codeWith yL_step cL_step 5 (some .int) [(0, 10, 13, 13), (0, 10, 17, 23)] :: zW
set_option maxRecDepth 100000 in
theorem zw_372 : (Cond.codeWith yL_hunk cL_hunk 5 (some .int) [(0, 10, 13, 13), (0, 10, 17, 23)] : Cond) ∈ zW := List.mem_filter.mpr ⟨List.mem_of_getElem? (i := 372) (by decide +kernel), by decide +kernel⟩
abbrev wsL_hunk : List Cond := .codeWith yL_hunk cL_hunk 5 (some .int) [(0, 10, 13, 13), (0, 10, 17, 23)] :: zW
set_option maxRecDepth 100000 in
theorem zw_389 : (Cond.codeWith yL_apply cL_apply 6 (some .int) [(0, 12, 15, 13), (0, 12, 19, 18)] : Cond) ∈ zW := List.mem_filter.mpr ⟨List.mem_of_getElem? (i := 389) (by decide +kernel), by decide +kernel⟩
abbrev wsL_apply : List Cond := .codeWith yL_apply cL_apply 6 (some .int) [(0, 12, 15, 13), (0, 12, 19, 18)] :: zW
set_option maxRecDepth 100000 in
theorem zw_408 : (Cond.codeWith yL_merge cL_merge 6 (some .int) [(0, 12, 15, 13), (0, 12, 19, 18)] : Cond) ∈ zW := List.mem_filter.mpr ⟨List.mem_of_getElem? (i := 408) (by decide +kernel), by decide +kernel⟩
abbrev wsL_merge : List Cond := .codeWith yL_merge cL_merge 6 (some .int) [(0, 12, 15, 13), (0, 12, 19, 18)] :: zW
set_option maxRecDepth 100000 in
theorem zw_441 : (Cond.codeWith yL_entry cL_entry 5 (some .int) [(0, 10, 13, 13), (0, 10, 17, 23)] : Cond) ∈ zW := List.mem_filter.mpr ⟨List.mem_of_getElem? (i := 441) (by decide +kernel), by decide +kernel⟩
abbrev wsL_entry : List Cond := .codeWith yL_entry cL_entry 5 (some .int) [(0, 10, 13, 13), (0, 10, 17, 23)] :: zW
set_option maxRecDepth 100000 in
theorem zw_450 : (Cond.codeWith yL_see cL_see 5 (some .int) [(0, 10, 13, 13), (0, 10, 17, 23), (0, 10, 21, 18)] : Cond) ∈ zW := List.mem_filter.mpr ⟨List.mem_of_getElem? (i := 450) (by decide +kernel), by decide +kernel⟩
abbrev wsL_see : List Cond := .codeWith yL_see cL_see 5 (some .int) [(0, 10, 13, 13), (0, 10, 17, 23), (0, 10, 21, 18)] :: zW
theorem dL_number_0 : decode cL_number 0 = .ok (.aload_n 3, 1) := by decide +kernel
theorem dL_number_1 : decode cL_number 1 = .ok (.iconst 0, 1) := by decide +kernel
theorem dL_number_2 : decode cL_number 2 = .ok (.aload_n 0, 1) := by decide +kernel
theorem dL_number_3 : decode cL_number 3 = .ok (.iload_n 1, 1) := by decide +kernel
theorem dL_number_4 : decode cL_number 4 = .ok (.iload_n 2, 1) := by decide +kernel
theorem dL_number_5 : decode cL_number 5 = .ok (.invokevirtual 7, 3) := by decide +kernel
theorem dL_number_8 : decode cL_number 8 = .ok (.i2l, 1) := by decide +kernel
theorem dL_number_9 : decode cL_number 9 = .ok (.lastore, 1) := by decide +kernel
theorem dL_number_10 : decode cL_number 10 = .ok (.goto 7, 3) := by decide +kernel
theorem dL_number_13 : decode cL_number 13 = .ok (.astore 4, 2) := by decide +kernel
theorem dL_number_15 : decode cL_number 15 = .ok (.iconst 1, 1) := by decide +kernel
theorem dL_number_16 : decode cL_number 16 = .ok (.ireturn, 1) := by decide +kernel
theorem dL_number_17 : decode cL_number 17 = .ok (.iconst 0, 1) := by decide +kernel
theorem dL_number_18 : decode cL_number 18 = .ok (.ireturn, 1) := by decide +kernel
theorem dL_diff_0 : decode cL_diff 0 = .ok (.aload_n 3, 1) := by decide +kernel
theorem dL_diff_1 : decode cL_diff 1 = .ok (.iconst 0, 1) := by decide +kernel
theorem dL_diff_2 : decode cL_diff 2 = .ok (.aload_n 0, 1) := by decide +kernel
theorem dL_diff_3 : decode cL_diff 3 = .ok (.iload_n 1, 1) := by decide +kernel
theorem dL_diff_4 : decode cL_diff 4 = .ok (.iload_n 2, 1) := by decide +kernel
theorem dL_diff_5 : decode cL_diff 5 = .ok (.invokevirtual 15, 3) := by decide +kernel
theorem dL_diff_8 : decode cL_diff 8 = .ok (.i2l, 1) := by decide +kernel
theorem dL_diff_9 : decode cL_diff 9 = .ok (.lastore, 1) := by decide +kernel
theorem dL_diff_10 : decode cL_diff 10 = .ok (.goto 11, 3) := by decide +kernel
theorem dL_diff_13 : decode cL_diff 13 = .ok (.astore 4, 2) := by decide +kernel
theorem dL_diff_15 : decode cL_diff 15 = .ok (.iconst 1, 1) := by decide +kernel
theorem dL_diff_16 : decode cL_diff 16 = .ok (.ireturn, 1) := by decide +kernel
theorem dL_diff_17 : decode cL_diff 17 = .ok (.astore 4, 2) := by decide +kernel
theorem dL_diff_19 : decode cL_diff 19 = .ok (.iconst 2, 1) := by decide +kernel
theorem dL_diff_20 : decode cL_diff 20 = .ok (.ireturn, 1) := by decide +kernel
theorem dL_diff_21 : decode cL_diff 21 = .ok (.iconst 0, 1) := by decide +kernel
theorem dL_diff_22 : decode cL_diff 22 = .ok (.ireturn, 1) := by decide +kernel
theorem dL_step_0 : decode cL_step 0 = .ok (.aload_n 3, 1) := by decide +kernel
theorem dL_step_1 : decode cL_step 1 = .ok (.iconst 0, 1) := by decide +kernel
theorem dL_step_2 : decode cL_step 2 = .ok (.aload_n 0, 1) := by decide +kernel
theorem dL_step_3 : decode cL_step 3 = .ok (.iload_n 1, 1) := by decide +kernel
theorem dL_step_4 : decode cL_step 4 = .ok (.iload_n 2, 1) := by decide +kernel
theorem dL_step_5 : decode cL_step 5 = .ok (.invokevirtual 20, 3) := by decide +kernel
theorem dL_step_8 : decode cL_step 8 = .ok (.i2l, 1) := by decide +kernel
theorem dL_step_9 : decode cL_step 9 = .ok (.lastore, 1) := by decide +kernel
theorem dL_step_10 : decode cL_step 10 = .ok (.goto 11, 3) := by decide +kernel
theorem dL_step_13 : decode cL_step 13 = .ok (.astore 4, 2) := by decide +kernel
theorem dL_step_15 : decode cL_step 15 = .ok (.iconst 1, 1) := by decide +kernel
theorem dL_step_16 : decode cL_step 16 = .ok (.ireturn, 1) := by decide +kernel
theorem dL_step_17 : decode cL_step 17 = .ok (.astore 4, 2) := by decide +kernel
theorem dL_step_19 : decode cL_step 19 = .ok (.iconst 2, 1) := by decide +kernel
theorem dL_step_20 : decode cL_step 20 = .ok (.ireturn, 1) := by decide +kernel
theorem dL_step_21 : decode cL_step 21 = .ok (.iconst 0, 1) := by decide +kernel
theorem dL_step_22 : decode cL_step 22 = .ok (.ireturn, 1) := by decide +kernel
theorem dL_hunk_0 : decode cL_hunk 0 = .ok (.aload_n 3, 1) := by decide +kernel
theorem dL_hunk_1 : decode cL_hunk 1 = .ok (.iconst 0, 1) := by decide +kernel
theorem dL_hunk_2 : decode cL_hunk 2 = .ok (.aload_n 0, 1) := by decide +kernel
theorem dL_hunk_3 : decode cL_hunk 3 = .ok (.iload_n 1, 1) := by decide +kernel
theorem dL_hunk_4 : decode cL_hunk 4 = .ok (.iload_n 2, 1) := by decide +kernel
theorem dL_hunk_5 : decode cL_hunk 5 = .ok (.invokevirtual 25, 3) := by decide +kernel
theorem dL_hunk_8 : decode cL_hunk 8 = .ok (.i2l, 1) := by decide +kernel
theorem dL_hunk_9 : decode cL_hunk 9 = .ok (.lastore, 1) := by decide +kernel
theorem dL_hunk_10 : decode cL_hunk 10 = .ok (.goto 11, 3) := by decide +kernel
theorem dL_hunk_13 : decode cL_hunk 13 = .ok (.astore 4, 2) := by decide +kernel
theorem dL_hunk_15 : decode cL_hunk 15 = .ok (.iconst 1, 1) := by decide +kernel
theorem dL_hunk_16 : decode cL_hunk 16 = .ok (.ireturn, 1) := by decide +kernel
theorem dL_hunk_17 : decode cL_hunk 17 = .ok (.astore 4, 2) := by decide +kernel
theorem dL_hunk_19 : decode cL_hunk 19 = .ok (.iconst 2, 1) := by decide +kernel
theorem dL_hunk_20 : decode cL_hunk 20 = .ok (.ireturn, 1) := by decide +kernel
theorem dL_hunk_21 : decode cL_hunk 21 = .ok (.iconst 0, 1) := by decide +kernel
theorem dL_hunk_22 : decode cL_hunk 22 = .ok (.ireturn, 1) := by decide +kernel
theorem dL_apply_0 : decode cL_apply 0 = .ok (.aload 4, 2) := by decide +kernel
theorem dL_apply_2 : decode cL_apply 2 = .ok (.iconst 0, 1) := by decide +kernel
theorem dL_apply_3 : decode cL_apply 3 = .ok (.aload_n 0, 1) := by decide +kernel
theorem dL_apply_4 : decode cL_apply 4 = .ok (.iload_n 1, 1) := by decide +kernel
theorem dL_apply_5 : decode cL_apply 5 = .ok (.iload_n 2, 1) := by decide +kernel
theorem dL_apply_6 : decode cL_apply 6 = .ok (.iload_n 3, 1) := by decide +kernel
theorem dL_apply_7 : decode cL_apply 7 = .ok (.invokevirtual 28, 3) := by decide +kernel
theorem dL_apply_10 : decode cL_apply 10 = .ok (.i2l, 1) := by decide +kernel
theorem dL_apply_11 : decode cL_apply 11 = .ok (.lastore, 1) := by decide +kernel
theorem dL_apply_12 : decode cL_apply 12 = .ok (.goto 11, 3) := by decide +kernel
theorem dL_apply_15 : decode cL_apply 15 = .ok (.astore 5, 2) := by decide +kernel
theorem dL_apply_17 : decode cL_apply 17 = .ok (.iconst 1, 1) := by decide +kernel
theorem dL_apply_18 : decode cL_apply 18 = .ok (.ireturn, 1) := by decide +kernel
theorem dL_apply_19 : decode cL_apply 19 = .ok (.astore 5, 2) := by decide +kernel
theorem dL_apply_21 : decode cL_apply 21 = .ok (.iconst 2, 1) := by decide +kernel
theorem dL_apply_22 : decode cL_apply 22 = .ok (.ireturn, 1) := by decide +kernel
theorem dL_apply_23 : decode cL_apply 23 = .ok (.iconst 0, 1) := by decide +kernel
theorem dL_apply_24 : decode cL_apply 24 = .ok (.ireturn, 1) := by decide +kernel
theorem dL_merge_0 : decode cL_merge 0 = .ok (.aload 4, 2) := by decide +kernel
theorem dL_merge_2 : decode cL_merge 2 = .ok (.iconst 0, 1) := by decide +kernel
theorem dL_merge_3 : decode cL_merge 3 = .ok (.aload_n 0, 1) := by decide +kernel
theorem dL_merge_4 : decode cL_merge 4 = .ok (.iload_n 1, 1) := by decide +kernel
theorem dL_merge_5 : decode cL_merge 5 = .ok (.iload_n 2, 1) := by decide +kernel
theorem dL_merge_6 : decode cL_merge 6 = .ok (.iload_n 3, 1) := by decide +kernel
theorem dL_merge_7 : decode cL_merge 7 = .ok (.invokevirtual 32, 3) := by decide +kernel
theorem dL_merge_10 : decode cL_merge 10 = .ok (.i2l, 1) := by decide +kernel
theorem dL_merge_11 : decode cL_merge 11 = .ok (.lastore, 1) := by decide +kernel
theorem dL_merge_12 : decode cL_merge 12 = .ok (.goto 11, 3) := by decide +kernel
theorem dL_merge_15 : decode cL_merge 15 = .ok (.astore 5, 2) := by decide +kernel
theorem dL_merge_17 : decode cL_merge 17 = .ok (.iconst 1, 1) := by decide +kernel
theorem dL_merge_18 : decode cL_merge 18 = .ok (.ireturn, 1) := by decide +kernel
theorem dL_merge_19 : decode cL_merge 19 = .ok (.astore 5, 2) := by decide +kernel
theorem dL_merge_21 : decode cL_merge 21 = .ok (.iconst 2, 1) := by decide +kernel
theorem dL_merge_22 : decode cL_merge 22 = .ok (.ireturn, 1) := by decide +kernel
theorem dL_merge_23 : decode cL_merge 23 = .ok (.iconst 0, 1) := by decide +kernel
theorem dL_merge_24 : decode cL_merge 24 = .ok (.ireturn, 1) := by decide +kernel
theorem dL_entry_0 : decode cL_entry 0 = .ok (.aload_n 3, 1) := by decide +kernel
theorem dL_entry_1 : decode cL_entry 1 = .ok (.iconst 0, 1) := by decide +kernel
theorem dL_entry_2 : decode cL_entry 2 = .ok (.aload_n 0, 1) := by decide +kernel
theorem dL_entry_3 : decode cL_entry 3 = .ok (.iload_n 1, 1) := by decide +kernel
theorem dL_entry_4 : decode cL_entry 4 = .ok (.iload_n 2, 1) := by decide +kernel
theorem dL_entry_5 : decode cL_entry 5 = .ok (.invokevirtual 36, 3) := by decide +kernel
theorem dL_entry_8 : decode cL_entry 8 = .ok (.i2l, 1) := by decide +kernel
theorem dL_entry_9 : decode cL_entry 9 = .ok (.lastore, 1) := by decide +kernel
theorem dL_entry_10 : decode cL_entry 10 = .ok (.goto 11, 3) := by decide +kernel
theorem dL_entry_13 : decode cL_entry 13 = .ok (.astore 4, 2) := by decide +kernel
theorem dL_entry_15 : decode cL_entry 15 = .ok (.iconst 1, 1) := by decide +kernel
theorem dL_entry_16 : decode cL_entry 16 = .ok (.ireturn, 1) := by decide +kernel
theorem dL_entry_17 : decode cL_entry 17 = .ok (.astore 4, 2) := by decide +kernel
theorem dL_entry_19 : decode cL_entry 19 = .ok (.iconst 2, 1) := by decide +kernel
theorem dL_entry_20 : decode cL_entry 20 = .ok (.ireturn, 1) := by decide +kernel
theorem dL_entry_21 : decode cL_entry 21 = .ok (.iconst 0, 1) := by decide +kernel
theorem dL_entry_22 : decode cL_entry 22 = .ok (.ireturn, 1) := by decide +kernel
theorem dL_see_0 : decode cL_see 0 = .ok (.aload_n 3, 1) := by decide +kernel
theorem dL_see_1 : decode cL_see 1 = .ok (.iconst 0, 1) := by decide +kernel
theorem dL_see_2 : decode cL_see 2 = .ok (.aload_n 0, 1) := by decide +kernel
theorem dL_see_3 : decode cL_see 3 = .ok (.iload_n 1, 1) := by decide +kernel
theorem dL_see_4 : decode cL_see 4 = .ok (.iload_n 2, 1) := by decide +kernel
theorem dL_see_5 : decode cL_see 5 = .ok (.invokevirtual 39, 3) := by decide +kernel
theorem dL_see_8 : decode cL_see 8 = .ok (.i2l, 1) := by decide +kernel
theorem dL_see_9 : decode cL_see 9 = .ok (.lastore, 1) := by decide +kernel
theorem dL_see_10 : decode cL_see 10 = .ok (.goto 15, 3) := by decide +kernel
theorem dL_see_13 : decode cL_see 13 = .ok (.astore 4, 2) := by decide +kernel
theorem dL_see_15 : decode cL_see 15 = .ok (.iconst 1, 1) := by decide +kernel
theorem dL_see_16 : decode cL_see 16 = .ok (.ireturn, 1) := by decide +kernel
theorem dL_see_17 : decode cL_see 17 = .ok (.astore 4, 2) := by decide +kernel
theorem dL_see_19 : decode cL_see 19 = .ok (.iconst 2, 1) := by decide +kernel
theorem dL_see_20 : decode cL_see 20 = .ok (.ireturn, 1) := by decide +kernel
theorem dL_see_21 : decode cL_see 21 = .ok (.astore 4, 2) := by decide +kernel
theorem dL_see_23 : decode cL_see 23 = .ok (.iconst 3, 1) := by decide +kernel
theorem dL_see_24 : decode cL_see 24 = .ok (.ireturn, 1) := by decide +kernel
theorem dL_see_25 : decode cL_see 25 = .ok (.iconst 0, 1) := by decide +kernel
theorem dL_see_26 : decode cL_see 26 = .ok (.ireturn, 1) := by decide +kernel
theorem dL_law_0 : decode code 0 = .ok (.new 8, 3) := by decide +kernel
theorem dL_law_3 : decode code 3 = .ok (.dup, 1) := by decide +kernel
theorem dL_law_4 : decode code 4 = .ok (.invokespecial 42, 3) := by decide +kernel
theorem dL_law_7 : decode code 7 = .ok (.astore_n 1, 1) := by decide +kernel
theorem dL_law_8 : decode code 8 = .ok (.new 43, 3) := by decide +kernel
theorem dL_law_11 : decode code 11 = .ok (.dup, 1) := by decide +kernel
theorem dL_law_12 : decode code 12 = .ok (.invokespecial 45, 3) := by decide +kernel
theorem dL_law_15 : decode code 15 = .ok (.astore_n 2, 1) := by decide +kernel
theorem dL_law_16 : decode code 16 = .ok (.iconst 1, 1) := by decide +kernel
theorem dL_law_17 : decode code 17 = .ok (.newarray .long, 2) := by decide +kernel
theorem dL_law_19 : decode code 19 = .ok (.astore_n 3, 1) := by decide +kernel
theorem dL_law_20 : decode code 20 = .ok (.iconst 0, 1) := by decide +kernel
theorem dL_law_21 : decode code 21 = .ok (.istore 4, 2) := by decide +kernel
theorem dL_law_23 : decode code 23 = .ok (.iload 4, 2) := by decide +kernel
theorem dL_law_25 : decode code 25 = .ok (.aload_n 0, 1) := by decide +kernel
theorem dL_law_26 : decode code 26 = .ok (.arraylength, 1) := by decide +kernel
theorem dL_law_27 : decode code 27 = .ok (.iconst 4, 1) := by decide +kernel
theorem dL_law_28 : decode code 28 = .ok (.isub, 1) := by decide +kernel
theorem dL_law_29 : decode code 29 = .ok (.if_icmp .gt 795, 3) := by decide +kernel
theorem dL_law_32 : decode code 32 = .ok (.aload_n 0, 1) := by decide +kernel
theorem dL_law_33 : decode code 33 = .ok (.iload 4, 2) := by decide +kernel
theorem dL_law_35 : decode code 35 = .ok (.iaload, 1) := by decide +kernel
theorem dL_law_36 : decode code 36 = .ok (.bipush 15, 2) := by decide +kernel
theorem dL_law_38 : decode code 38 = .ok (.iand, 1) := by decide +kernel
theorem dL_law_39 : decode code 39 = .ok (.tableswitch 779 0 13 #[69, 106, 131, 156, 224, 292, 305, 373, 386, 454, 550, 630, 698, 711], 69) := by decide +kernel
theorem dL_law_108 : decode code 108 = .ok (.aload_n 1, 1) := by decide +kernel
theorem dL_law_109 : decode code 109 = .ok (.aload_n 0, 1) := by decide +kernel
theorem dL_law_110 : decode code 110 = .ok (.iload 4, 2) := by decide +kernel
theorem dL_law_112 : decode code 112 = .ok (.iconst 1, 1) := by decide +kernel
theorem dL_law_113 : decode code 113 = .ok (.iadd, 1) := by decide +kernel
theorem dL_law_114 : decode code 114 = .ok (.iaload, 1) := by decide +kernel
theorem dL_law_115 : decode code 115 = .ok (.aload_n 0, 1) := by decide +kernel
theorem dL_law_116 : decode code 116 = .ok (.iload 4, 2) := by decide +kernel
theorem dL_law_118 : decode code 118 = .ok (.iconst 2, 1) := by decide +kernel
theorem dL_law_119 : decode code 119 = .ok (.iadd, 1) := by decide +kernel
theorem dL_law_120 : decode code 120 = .ok (.iaload, 1) := by decide +kernel
theorem dL_law_121 : decode code 121 = .ok (.invokevirtual 46, 3) := by decide +kernel
theorem dL_law_124 : decode code 124 = .ok (.aload_n 2, 1) := by decide +kernel
theorem dL_law_125 : decode code 125 = .ok (.aload_n 0, 1) := by decide +kernel
theorem dL_law_126 : decode code 126 = .ok (.iload 4, 2) := by decide +kernel
theorem dL_law_128 : decode code 128 = .ok (.iconst 1, 1) := by decide +kernel
theorem dL_law_129 : decode code 129 = .ok (.iadd, 1) := by decide +kernel
theorem dL_law_130 : decode code 130 = .ok (.iaload, 1) := by decide +kernel
theorem dL_law_131 : decode code 131 = .ok (.aload_n 0, 1) := by decide +kernel
theorem dL_law_132 : decode code 132 = .ok (.iload 4, 2) := by decide +kernel
theorem dL_law_134 : decode code 134 = .ok (.iconst 2, 1) := by decide +kernel
theorem dL_law_135 : decode code 135 = .ok (.iadd, 1) := by decide +kernel
theorem dL_law_136 : decode code 136 = .ok (.iaload, 1) := by decide +kernel
theorem dL_law_137 : decode code 137 = .ok (.invokevirtual 49, 3) := by decide +kernel
theorem dL_law_140 : decode code 140 = .ok (.if_icmp .eq 678, 3) := by decide +kernel
theorem dL_law_143 : decode code 143 = .ok (.iconst 0, 1) := by decide +kernel
theorem dL_law_144 : decode code 144 = .ok (.ireturn, 1) := by decide +kernel
theorem dL_law_145 : decode code 145 = .ok (.aload_n 1, 1) := by decide +kernel
theorem dL_law_146 : decode code 146 = .ok (.aload_n 0, 1) := by decide +kernel
theorem dL_law_147 : decode code 147 = .ok (.iload 4, 2) := by decide +kernel
theorem dL_law_149 : decode code 149 = .ok (.iconst 1, 1) := by decide +kernel
theorem dL_law_150 : decode code 150 = .ok (.iadd, 1) := by decide +kernel
theorem dL_law_151 : decode code 151 = .ok (.iaload, 1) := by decide +kernel
theorem dL_law_152 : decode code 152 = .ok (.invokevirtual 50, 3) := by decide +kernel
theorem dL_law_155 : decode code 155 = .ok (.aload_n 2, 1) := by decide +kernel
theorem dL_law_156 : decode code 156 = .ok (.aload_n 0, 1) := by decide +kernel
theorem dL_law_157 : decode code 157 = .ok (.iload 4, 2) := by decide +kernel
theorem dL_law_159 : decode code 159 = .ok (.iconst 1, 1) := by decide +kernel
theorem dL_law_160 : decode code 160 = .ok (.iadd, 1) := by decide +kernel
theorem dL_law_161 : decode code 161 = .ok (.iaload, 1) := by decide +kernel
theorem dL_law_162 : decode code 162 = .ok (.invokevirtual 54, 3) := by decide +kernel
theorem dL_law_165 : decode code 165 = .ok (.if_icmp .eq 653, 3) := by decide +kernel
theorem dL_law_168 : decode code 168 = .ok (.iconst 0, 1) := by decide +kernel
theorem dL_law_169 : decode code 169 = .ok (.ireturn, 1) := by decide +kernel
theorem dL_law_170 : decode code 170 = .ok (.aload_n 1, 1) := by decide +kernel
theorem dL_law_171 : decode code 171 = .ok (.aload_n 0, 1) := by decide +kernel
theorem dL_law_172 : decode code 172 = .ok (.iload 4, 2) := by decide +kernel
theorem dL_law_174 : decode code 174 = .ok (.iconst 1, 1) := by decide +kernel
theorem dL_law_175 : decode code 175 = .ok (.iadd, 1) := by decide +kernel
theorem dL_law_176 : decode code 176 = .ok (.iaload, 1) := by decide +kernel
theorem dL_law_177 : decode code 177 = .ok (.invokevirtual 55, 3) := by decide +kernel
theorem dL_law_180 : decode code 180 = .ok (.aload_n 2, 1) := by decide +kernel
theorem dL_law_181 : decode code 181 = .ok (.aload_n 0, 1) := by decide +kernel
theorem dL_law_182 : decode code 182 = .ok (.iload 4, 2) := by decide +kernel
theorem dL_law_184 : decode code 184 = .ok (.iconst 1, 1) := by decide +kernel
theorem dL_law_185 : decode code 185 = .ok (.iadd, 1) := by decide +kernel
theorem dL_law_186 : decode code 186 = .ok (.iaload, 1) := by decide +kernel
theorem dL_law_187 : decode code 187 = .ok (.invokevirtual 58, 3) := by decide +kernel
theorem dL_law_190 : decode code 190 = .ok (.if_icmp .eq 628, 3) := by decide +kernel
theorem dL_law_193 : decode code 193 = .ok (.iconst 0, 1) := by decide +kernel
theorem dL_law_194 : decode code 194 = .ok (.ireturn, 1) := by decide +kernel
theorem dL_law_195 : decode code 195 = .ok (.aload_n 1, 1) := by decide +kernel
theorem dL_law_196 : decode code 196 = .ok (.aload_n 0, 1) := by decide +kernel
theorem dL_law_197 : decode code 197 = .ok (.iload 4, 2) := by decide +kernel
theorem dL_law_199 : decode code 199 = .ok (.iconst 1, 1) := by decide +kernel
theorem dL_law_200 : decode code 200 = .ok (.iadd, 1) := by decide +kernel
theorem dL_law_201 : decode code 201 = .ok (.iaload, 1) := by decide +kernel
theorem dL_law_202 : decode code 202 = .ok (.aload_n 0, 1) := by decide +kernel
theorem dL_law_203 : decode code 203 = .ok (.iload 4, 2) := by decide +kernel
theorem dL_law_205 : decode code 205 = .ok (.iconst 2, 1) := by decide +kernel
theorem dL_law_206 : decode code 206 = .ok (.iadd, 1) := by decide +kernel
theorem dL_law_207 : decode code 207 = .ok (.iaload, 1) := by decide +kernel
theorem dL_law_208 : decode code 208 = .ok (.aload_n 3, 1) := by decide +kernel
theorem dL_law_209 : decode code 209 = .ok (.invokestatic 59, 3) := by decide +kernel
theorem dL_law_212 : decode code 212 = .ok (.istore 5, 2) := by decide +kernel
theorem dL_law_214 : decode code 214 = .ok (.aload_n 2, 1) := by decide +kernel
theorem dL_law_215 : decode code 215 = .ok (.aload_n 0, 1) := by decide +kernel
theorem dL_law_216 : decode code 216 = .ok (.iload 4, 2) := by decide +kernel
theorem dL_law_218 : decode code 218 = .ok (.iconst 1, 1) := by decide +kernel
theorem dL_law_219 : decode code 219 = .ok (.iadd, 1) := by decide +kernel
theorem dL_law_220 : decode code 220 = .ok (.iaload, 1) := by decide +kernel
theorem dL_law_221 : decode code 221 = .ok (.aload_n 0, 1) := by decide +kernel
theorem dL_law_222 : decode code 222 = .ok (.iload 4, 2) := by decide +kernel
theorem dL_law_224 : decode code 224 = .ok (.iconst 2, 1) := by decide +kernel
theorem dL_law_225 : decode code 225 = .ok (.iadd, 1) := by decide +kernel
theorem dL_law_226 : decode code 226 = .ok (.iaload, 1) := by decide +kernel
theorem dL_law_227 : decode code 227 = .ok (.invokevirtual 64, 3) := by decide +kernel
theorem dL_law_230 : decode code 230 = .ok (.istore 6, 2) := by decide +kernel
theorem dL_law_232 : decode code 232 = .ok (.aload_n 2, 1) := by decide +kernel
theorem dL_law_233 : decode code 233 = .ok (.invokevirtual 65, 3) := by decide +kernel
theorem dL_law_236 : decode code 236 = .ok (.iload 5, 2) := by decide +kernel
theorem dL_law_238 : decode code 238 = .ok (.if_icmp .eq 5, 3) := by decide +kernel
theorem dL_law_241 : decode code 241 = .ok (.iconst 0, 1) := by decide +kernel
theorem dL_law_242 : decode code 242 = .ok (.ireturn, 1) := by decide +kernel
theorem dL_law_243 : decode code 243 = .ok (.iload 5, 2) := by decide +kernel
theorem dL_law_245 : decode code 245 = .ok (.ifCond .ne 15, 3) := by decide +kernel
theorem dL_law_248 : decode code 248 = .ok (.aload_n 3, 1) := by decide +kernel
theorem dL_law_249 : decode code 249 = .ok (.iconst 0, 1) := by decide +kernel
theorem dL_law_250 : decode code 250 = .ok (.laload, 1) := by decide +kernel
theorem dL_law_251 : decode code 251 = .ok (.iload 6, 2) := by decide +kernel
theorem dL_law_253 : decode code 253 = .ok (.i2l, 1) := by decide +kernel
theorem dL_law_254 : decode code 254 = .ok (.lcmp, 1) := by decide +kernel
theorem dL_law_255 : decode code 255 = .ok (.ifCond .eq 5, 3) := by decide +kernel
theorem dL_law_258 : decode code 258 = .ok (.iconst 0, 1) := by decide +kernel
theorem dL_law_259 : decode code 259 = .ok (.ireturn, 1) := by decide +kernel
theorem dL_law_260 : decode code 260 = .ok (.goto 558, 3) := by decide +kernel
theorem dL_law_263 : decode code 263 = .ok (.aload_n 1, 1) := by decide +kernel
theorem dL_law_264 : decode code 264 = .ok (.aload_n 0, 1) := by decide +kernel
theorem dL_law_265 : decode code 265 = .ok (.iload 4, 2) := by decide +kernel
theorem dL_law_267 : decode code 267 = .ok (.iconst 1, 1) := by decide +kernel
theorem dL_law_268 : decode code 268 = .ok (.iadd, 1) := by decide +kernel
theorem dL_law_269 : decode code 269 = .ok (.iaload, 1) := by decide +kernel
theorem dL_law_270 : decode code 270 = .ok (.aload_n 0, 1) := by decide +kernel
theorem dL_law_271 : decode code 271 = .ok (.iload 4, 2) := by decide +kernel
theorem dL_law_273 : decode code 273 = .ok (.iconst 2, 1) := by decide +kernel
theorem dL_law_274 : decode code 274 = .ok (.iadd, 1) := by decide +kernel
theorem dL_law_275 : decode code 275 = .ok (.iaload, 1) := by decide +kernel
theorem dL_law_276 : decode code 276 = .ok (.aload_n 3, 1) := by decide +kernel
theorem dL_law_277 : decode code 277 = .ok (.invokestatic 69, 3) := by decide +kernel
theorem dL_law_280 : decode code 280 = .ok (.istore 5, 2) := by decide +kernel
theorem dL_law_282 : decode code 282 = .ok (.aload_n 2, 1) := by decide +kernel
theorem dL_law_283 : decode code 283 = .ok (.aload_n 0, 1) := by decide +kernel
theorem dL_law_284 : decode code 284 = .ok (.iload 4, 2) := by decide +kernel
theorem dL_law_286 : decode code 286 = .ok (.iconst 1, 1) := by decide +kernel
theorem dL_law_287 : decode code 287 = .ok (.iadd, 1) := by decide +kernel
theorem dL_law_288 : decode code 288 = .ok (.iaload, 1) := by decide +kernel
theorem dL_law_289 : decode code 289 = .ok (.aload_n 0, 1) := by decide +kernel
theorem dL_law_290 : decode code 290 = .ok (.iload 4, 2) := by decide +kernel
theorem dL_law_292 : decode code 292 = .ok (.iconst 2, 1) := by decide +kernel
theorem dL_law_293 : decode code 293 = .ok (.iadd, 1) := by decide +kernel
theorem dL_law_294 : decode code 294 = .ok (.iaload, 1) := by decide +kernel
theorem dL_law_295 : decode code 295 = .ok (.invokevirtual 71, 3) := by decide +kernel
theorem dL_law_298 : decode code 298 = .ok (.istore 6, 2) := by decide +kernel
theorem dL_law_300 : decode code 300 = .ok (.aload_n 2, 1) := by decide +kernel
theorem dL_law_301 : decode code 301 = .ok (.invokevirtual 65, 3) := by decide +kernel
theorem dL_law_304 : decode code 304 = .ok (.iload 5, 2) := by decide +kernel
theorem dL_law_306 : decode code 306 = .ok (.if_icmp .eq 5, 3) := by decide +kernel
theorem dL_law_309 : decode code 309 = .ok (.iconst 0, 1) := by decide +kernel
theorem dL_law_310 : decode code 310 = .ok (.ireturn, 1) := by decide +kernel
theorem dL_law_311 : decode code 311 = .ok (.iload 5, 2) := by decide +kernel
theorem dL_law_313 : decode code 313 = .ok (.ifCond .ne 15, 3) := by decide +kernel
theorem dL_law_316 : decode code 316 = .ok (.aload_n 3, 1) := by decide +kernel
theorem dL_law_317 : decode code 317 = .ok (.iconst 0, 1) := by decide +kernel
theorem dL_law_318 : decode code 318 = .ok (.laload, 1) := by decide +kernel
theorem dL_law_319 : decode code 319 = .ok (.iload 6, 2) := by decide +kernel
theorem dL_law_321 : decode code 321 = .ok (.i2l, 1) := by decide +kernel
theorem dL_law_322 : decode code 322 = .ok (.lcmp, 1) := by decide +kernel
theorem dL_law_323 : decode code 323 = .ok (.ifCond .eq 5, 3) := by decide +kernel
theorem dL_law_326 : decode code 326 = .ok (.iconst 0, 1) := by decide +kernel
theorem dL_law_327 : decode code 327 = .ok (.ireturn, 1) := by decide +kernel
theorem dL_law_328 : decode code 328 = .ok (.goto 490, 3) := by decide +kernel
theorem dL_law_331 : decode code 331 = .ok (.aload_n 1, 1) := by decide +kernel
theorem dL_law_332 : decode code 332 = .ok (.invokevirtual 72, 3) := by decide +kernel
theorem dL_law_335 : decode code 335 = .ok (.aload_n 2, 1) := by decide +kernel
theorem dL_law_336 : decode code 336 = .ok (.invokevirtual 75, 3) := by decide +kernel
theorem dL_law_339 : decode code 339 = .ok (.if_icmp .eq 479, 3) := by decide +kernel
theorem dL_law_342 : decode code 342 = .ok (.iconst 0, 1) := by decide +kernel
theorem dL_law_343 : decode code 343 = .ok (.ireturn, 1) := by decide +kernel
theorem dL_law_344 : decode code 344 = .ok (.aload_n 1, 1) := by decide +kernel
theorem dL_law_345 : decode code 345 = .ok (.aload_n 0, 1) := by decide +kernel
theorem dL_law_346 : decode code 346 = .ok (.iload 4, 2) := by decide +kernel
theorem dL_law_348 : decode code 348 = .ok (.iconst 1, 1) := by decide +kernel
theorem dL_law_349 : decode code 349 = .ok (.iadd, 1) := by decide +kernel
theorem dL_law_350 : decode code 350 = .ok (.iaload, 1) := by decide +kernel
theorem dL_law_351 : decode code 351 = .ok (.aload_n 0, 1) := by decide +kernel
theorem dL_law_352 : decode code 352 = .ok (.iload 4, 2) := by decide +kernel
theorem dL_law_354 : decode code 354 = .ok (.iconst 2, 1) := by decide +kernel
theorem dL_law_355 : decode code 355 = .ok (.iadd, 1) := by decide +kernel
theorem dL_law_356 : decode code 356 = .ok (.iaload, 1) := by decide +kernel
theorem dL_law_357 : decode code 357 = .ok (.aload_n 3, 1) := by decide +kernel
theorem dL_law_358 : decode code 358 = .ok (.invokestatic 76, 3) := by decide +kernel
theorem dL_law_361 : decode code 361 = .ok (.istore 5, 2) := by decide +kernel
theorem dL_law_363 : decode code 363 = .ok (.aload_n 2, 1) := by decide +kernel
theorem dL_law_364 : decode code 364 = .ok (.aload_n 0, 1) := by decide +kernel
theorem dL_law_365 : decode code 365 = .ok (.iload 4, 2) := by decide +kernel
theorem dL_law_367 : decode code 367 = .ok (.iconst 1, 1) := by decide +kernel
theorem dL_law_368 : decode code 368 = .ok (.iadd, 1) := by decide +kernel
theorem dL_law_369 : decode code 369 = .ok (.iaload, 1) := by decide +kernel
theorem dL_law_370 : decode code 370 = .ok (.aload_n 0, 1) := by decide +kernel
theorem dL_law_371 : decode code 371 = .ok (.iload 4, 2) := by decide +kernel
theorem dL_law_373 : decode code 373 = .ok (.iconst 2, 1) := by decide +kernel
theorem dL_law_374 : decode code 374 = .ok (.iadd, 1) := by decide +kernel
theorem dL_law_375 : decode code 375 = .ok (.iaload, 1) := by decide +kernel
theorem dL_law_376 : decode code 376 = .ok (.invokevirtual 78, 3) := by decide +kernel
theorem dL_law_379 : decode code 379 = .ok (.istore 6, 2) := by decide +kernel
theorem dL_law_381 : decode code 381 = .ok (.aload_n 2, 1) := by decide +kernel
theorem dL_law_382 : decode code 382 = .ok (.invokevirtual 65, 3) := by decide +kernel
theorem dL_law_385 : decode code 385 = .ok (.iload 5, 2) := by decide +kernel
theorem dL_law_387 : decode code 387 = .ok (.if_icmp .eq 5, 3) := by decide +kernel
theorem dL_law_390 : decode code 390 = .ok (.iconst 0, 1) := by decide +kernel
theorem dL_law_391 : decode code 391 = .ok (.ireturn, 1) := by decide +kernel
theorem dL_law_392 : decode code 392 = .ok (.iload 5, 2) := by decide +kernel
theorem dL_law_394 : decode code 394 = .ok (.ifCond .ne 15, 3) := by decide +kernel
theorem dL_law_397 : decode code 397 = .ok (.aload_n 3, 1) := by decide +kernel
theorem dL_law_398 : decode code 398 = .ok (.iconst 0, 1) := by decide +kernel
theorem dL_law_399 : decode code 399 = .ok (.laload, 1) := by decide +kernel
theorem dL_law_400 : decode code 400 = .ok (.iload 6, 2) := by decide +kernel
theorem dL_law_402 : decode code 402 = .ok (.i2l, 1) := by decide +kernel
theorem dL_law_403 : decode code 403 = .ok (.lcmp, 1) := by decide +kernel
theorem dL_law_404 : decode code 404 = .ok (.ifCond .eq 5, 3) := by decide +kernel
theorem dL_law_407 : decode code 407 = .ok (.iconst 0, 1) := by decide +kernel
theorem dL_law_408 : decode code 408 = .ok (.ireturn, 1) := by decide +kernel
theorem dL_law_409 : decode code 409 = .ok (.goto 409, 3) := by decide +kernel
theorem dL_law_412 : decode code 412 = .ok (.aload_n 1, 1) := by decide +kernel
theorem dL_law_413 : decode code 413 = .ok (.invokevirtual 79, 3) := by decide +kernel
theorem dL_law_416 : decode code 416 = .ok (.aload_n 2, 1) := by decide +kernel
theorem dL_law_417 : decode code 417 = .ok (.invokevirtual 82, 3) := by decide +kernel
theorem dL_law_420 : decode code 420 = .ok (.if_icmp .eq 398, 3) := by decide +kernel
theorem dL_law_423 : decode code 423 = .ok (.iconst 0, 1) := by decide +kernel
theorem dL_law_424 : decode code 424 = .ok (.ireturn, 1) := by decide +kernel
theorem dL_law_425 : decode code 425 = .ok (.aload_n 1, 1) := by decide +kernel
theorem dL_law_426 : decode code 426 = .ok (.aload_n 0, 1) := by decide +kernel
theorem dL_law_427 : decode code 427 = .ok (.iload 4, 2) := by decide +kernel
theorem dL_law_429 : decode code 429 = .ok (.iconst 1, 1) := by decide +kernel
theorem dL_law_430 : decode code 430 = .ok (.iadd, 1) := by decide +kernel
theorem dL_law_431 : decode code 431 = .ok (.iaload, 1) := by decide +kernel
theorem dL_law_432 : decode code 432 = .ok (.aload_n 0, 1) := by decide +kernel
theorem dL_law_433 : decode code 433 = .ok (.iload 4, 2) := by decide +kernel
theorem dL_law_435 : decode code 435 = .ok (.iconst 2, 1) := by decide +kernel
theorem dL_law_436 : decode code 436 = .ok (.iadd, 1) := by decide +kernel
theorem dL_law_437 : decode code 437 = .ok (.iaload, 1) := by decide +kernel
theorem dL_law_438 : decode code 438 = .ok (.aload_n 3, 1) := by decide +kernel
theorem dL_law_439 : decode code 439 = .ok (.invokestatic 83, 3) := by decide +kernel
theorem dL_law_442 : decode code 442 = .ok (.istore 5, 2) := by decide +kernel
theorem dL_law_444 : decode code 444 = .ok (.aload_n 2, 1) := by decide +kernel
theorem dL_law_445 : decode code 445 = .ok (.aload_n 0, 1) := by decide +kernel
theorem dL_law_446 : decode code 446 = .ok (.iload 4, 2) := by decide +kernel
theorem dL_law_448 : decode code 448 = .ok (.iconst 1, 1) := by decide +kernel
theorem dL_law_449 : decode code 449 = .ok (.iadd, 1) := by decide +kernel
theorem dL_law_450 : decode code 450 = .ok (.iaload, 1) := by decide +kernel
theorem dL_law_451 : decode code 451 = .ok (.aload_n 0, 1) := by decide +kernel
theorem dL_law_452 : decode code 452 = .ok (.iload 4, 2) := by decide +kernel
theorem dL_law_454 : decode code 454 = .ok (.iconst 2, 1) := by decide +kernel
theorem dL_law_455 : decode code 455 = .ok (.iadd, 1) := by decide +kernel
theorem dL_law_456 : decode code 456 = .ok (.iaload, 1) := by decide +kernel
theorem dL_law_457 : decode code 457 = .ok (.invokevirtual 85, 3) := by decide +kernel
theorem dL_law_460 : decode code 460 = .ok (.istore 6, 2) := by decide +kernel
theorem dL_law_462 : decode code 462 = .ok (.aload_n 2, 1) := by decide +kernel
theorem dL_law_463 : decode code 463 = .ok (.invokevirtual 65, 3) := by decide +kernel
theorem dL_law_466 : decode code 466 = .ok (.iload 5, 2) := by decide +kernel
theorem dL_law_468 : decode code 468 = .ok (.if_icmp .eq 5, 3) := by decide +kernel
theorem dL_law_471 : decode code 471 = .ok (.iconst 0, 1) := by decide +kernel
theorem dL_law_472 : decode code 472 = .ok (.ireturn, 1) := by decide +kernel
theorem dL_law_473 : decode code 473 = .ok (.iload 5, 2) := by decide +kernel
theorem dL_law_475 : decode code 475 = .ok (.ifCond .ne 15, 3) := by decide +kernel
theorem dL_law_478 : decode code 478 = .ok (.aload_n 3, 1) := by decide +kernel
theorem dL_law_479 : decode code 479 = .ok (.iconst 0, 1) := by decide +kernel
theorem dL_law_480 : decode code 480 = .ok (.laload, 1) := by decide +kernel
theorem dL_law_481 : decode code 481 = .ok (.iload 6, 2) := by decide +kernel
theorem dL_law_483 : decode code 483 = .ok (.i2l, 1) := by decide +kernel
theorem dL_law_484 : decode code 484 = .ok (.lcmp, 1) := by decide +kernel
theorem dL_law_485 : decode code 485 = .ok (.ifCond .eq 5, 3) := by decide +kernel
theorem dL_law_488 : decode code 488 = .ok (.iconst 0, 1) := by decide +kernel
theorem dL_law_489 : decode code 489 = .ok (.ireturn, 1) := by decide +kernel
theorem dL_law_490 : decode code 490 = .ok (.goto 328, 3) := by decide +kernel
theorem dL_law_493 : decode code 493 = .ok (.aload_n 1, 1) := by decide +kernel
theorem dL_law_494 : decode code 494 = .ok (.aload_n 0, 1) := by decide +kernel
theorem dL_law_495 : decode code 495 = .ok (.iload 4, 2) := by decide +kernel
theorem dL_law_497 : decode code 497 = .ok (.iconst 1, 1) := by decide +kernel
theorem dL_law_498 : decode code 498 = .ok (.iadd, 1) := by decide +kernel
theorem dL_law_499 : decode code 499 = .ok (.iaload, 1) := by decide +kernel
theorem dL_law_500 : decode code 500 = .ok (.aload_n 0, 1) := by decide +kernel
theorem dL_law_501 : decode code 501 = .ok (.iload 4, 2) := by decide +kernel
theorem dL_law_503 : decode code 503 = .ok (.iconst 2, 1) := by decide +kernel
theorem dL_law_504 : decode code 504 = .ok (.iadd, 1) := by decide +kernel
theorem dL_law_505 : decode code 505 = .ok (.iaload, 1) := by decide +kernel
theorem dL_law_506 : decode code 506 = .ok (.aload_n 0, 1) := by decide +kernel
theorem dL_law_507 : decode code 507 = .ok (.iload 4, 2) := by decide +kernel
theorem dL_law_509 : decode code 509 = .ok (.iconst 3, 1) := by decide +kernel
theorem dL_law_510 : decode code 510 = .ok (.iadd, 1) := by decide +kernel
theorem dL_law_511 : decode code 511 = .ok (.iaload, 1) := by decide +kernel
theorem dL_law_512 : decode code 512 = .ok (.ifCond .eq 7, 3) := by decide +kernel
theorem dL_law_515 : decode code 515 = .ok (.iconst 1, 1) := by decide +kernel
theorem dL_law_516 : decode code 516 = .ok (.goto 4, 3) := by decide +kernel
theorem dL_law_519 : decode code 519 = .ok (.iconst 0, 1) := by decide +kernel
theorem dL_law_520 : decode code 520 = .ok (.aload_n 3, 1) := by decide +kernel
theorem dL_law_521 : decode code 521 = .ok (.invokestatic 86, 3) := by decide +kernel
theorem dL_law_524 : decode code 524 = .ok (.istore 5, 2) := by decide +kernel
theorem dL_law_526 : decode code 526 = .ok (.aload_n 2, 1) := by decide +kernel
theorem dL_law_527 : decode code 527 = .ok (.aload_n 0, 1) := by decide +kernel
theorem dL_law_528 : decode code 528 = .ok (.iload 4, 2) := by decide +kernel
theorem dL_law_530 : decode code 530 = .ok (.iconst 1, 1) := by decide +kernel
theorem dL_law_531 : decode code 531 = .ok (.iadd, 1) := by decide +kernel
theorem dL_law_532 : decode code 532 = .ok (.iaload, 1) := by decide +kernel
theorem dL_law_533 : decode code 533 = .ok (.aload_n 0, 1) := by decide +kernel
theorem dL_law_534 : decode code 534 = .ok (.iload 4, 2) := by decide +kernel
theorem dL_law_536 : decode code 536 = .ok (.iconst 2, 1) := by decide +kernel
theorem dL_law_537 : decode code 537 = .ok (.iadd, 1) := by decide +kernel
theorem dL_law_538 : decode code 538 = .ok (.iaload, 1) := by decide +kernel
theorem dL_law_539 : decode code 539 = .ok (.aload_n 0, 1) := by decide +kernel
theorem dL_law_540 : decode code 540 = .ok (.iload 4, 2) := by decide +kernel
theorem dL_law_542 : decode code 542 = .ok (.iconst 3, 1) := by decide +kernel
theorem dL_law_543 : decode code 543 = .ok (.iadd, 1) := by decide +kernel
theorem dL_law_544 : decode code 544 = .ok (.iaload, 1) := by decide +kernel
theorem dL_law_545 : decode code 545 = .ok (.ifCond .eq 7, 3) := by decide +kernel
theorem dL_law_548 : decode code 548 = .ok (.iconst 1, 1) := by decide +kernel
theorem dL_law_549 : decode code 549 = .ok (.goto 4, 3) := by decide +kernel
theorem dL_law_552 : decode code 552 = .ok (.iconst 0, 1) := by decide +kernel
theorem dL_law_553 : decode code 553 = .ok (.invokevirtual 89, 3) := by decide +kernel
theorem dL_law_556 : decode code 556 = .ok (.istore 6, 2) := by decide +kernel
theorem dL_law_558 : decode code 558 = .ok (.aload_n 2, 1) := by decide +kernel
theorem dL_law_559 : decode code 559 = .ok (.invokevirtual 65, 3) := by decide +kernel
theorem dL_law_562 : decode code 562 = .ok (.iload 5, 2) := by decide +kernel
theorem dL_law_564 : decode code 564 = .ok (.if_icmp .eq 5, 3) := by decide +kernel
theorem dL_law_567 : decode code 567 = .ok (.iconst 0, 1) := by decide +kernel
theorem dL_law_568 : decode code 568 = .ok (.ireturn, 1) := by decide +kernel
theorem dL_law_569 : decode code 569 = .ok (.iload 5, 2) := by decide +kernel
theorem dL_law_571 : decode code 571 = .ok (.ifCond .ne 15, 3) := by decide +kernel
theorem dL_law_574 : decode code 574 = .ok (.aload_n 3, 1) := by decide +kernel
theorem dL_law_575 : decode code 575 = .ok (.iconst 0, 1) := by decide +kernel
theorem dL_law_576 : decode code 576 = .ok (.laload, 1) := by decide +kernel
theorem dL_law_577 : decode code 577 = .ok (.iload 6, 2) := by decide +kernel
theorem dL_law_579 : decode code 579 = .ok (.i2l, 1) := by decide +kernel
theorem dL_law_580 : decode code 580 = .ok (.lcmp, 1) := by decide +kernel
theorem dL_law_581 : decode code 581 = .ok (.ifCond .eq 5, 3) := by decide +kernel
theorem dL_law_584 : decode code 584 = .ok (.iconst 0, 1) := by decide +kernel
theorem dL_law_585 : decode code 585 = .ok (.ireturn, 1) := by decide +kernel
theorem dL_law_586 : decode code 586 = .ok (.goto 232, 3) := by decide +kernel
theorem dL_law_589 : decode code 589 = .ok (.aload_n 1, 1) := by decide +kernel
theorem dL_law_590 : decode code 590 = .ok (.aload_n 0, 1) := by decide +kernel
theorem dL_law_591 : decode code 591 = .ok (.iload 4, 2) := by decide +kernel
theorem dL_law_593 : decode code 593 = .ok (.iconst 1, 1) := by decide +kernel
theorem dL_law_594 : decode code 594 = .ok (.iadd, 1) := by decide +kernel
theorem dL_law_595 : decode code 595 = .ok (.iaload, 1) := by decide +kernel
theorem dL_law_596 : decode code 596 = .ok (.aload_n 0, 1) := by decide +kernel
theorem dL_law_597 : decode code 597 = .ok (.iload 4, 2) := by decide +kernel
theorem dL_law_599 : decode code 599 = .ok (.iconst 2, 1) := by decide +kernel
theorem dL_law_600 : decode code 600 = .ok (.iadd, 1) := by decide +kernel
theorem dL_law_601 : decode code 601 = .ok (.iaload, 1) := by decide +kernel
theorem dL_law_602 : decode code 602 = .ok (.aload_n 0, 1) := by decide +kernel
theorem dL_law_603 : decode code 603 = .ok (.iload 4, 2) := by decide +kernel
theorem dL_law_605 : decode code 605 = .ok (.iconst 3, 1) := by decide +kernel
theorem dL_law_606 : decode code 606 = .ok (.iadd, 1) := by decide +kernel
theorem dL_law_607 : decode code 607 = .ok (.iaload, 1) := by decide +kernel
theorem dL_law_608 : decode code 608 = .ok (.aload_n 3, 1) := by decide +kernel
theorem dL_law_609 : decode code 609 = .ok (.invokestatic 90, 3) := by decide +kernel
theorem dL_law_612 : decode code 612 = .ok (.istore 5, 2) := by decide +kernel
theorem dL_law_614 : decode code 614 = .ok (.aload_n 2, 1) := by decide +kernel
theorem dL_law_615 : decode code 615 = .ok (.aload_n 0, 1) := by decide +kernel
theorem dL_law_616 : decode code 616 = .ok (.iload 4, 2) := by decide +kernel
theorem dL_law_618 : decode code 618 = .ok (.iconst 1, 1) := by decide +kernel
theorem dL_law_619 : decode code 619 = .ok (.iadd, 1) := by decide +kernel
theorem dL_law_620 : decode code 620 = .ok (.iaload, 1) := by decide +kernel
theorem dL_law_621 : decode code 621 = .ok (.aload_n 0, 1) := by decide +kernel
theorem dL_law_622 : decode code 622 = .ok (.iload 4, 2) := by decide +kernel
theorem dL_law_624 : decode code 624 = .ok (.iconst 2, 1) := by decide +kernel
theorem dL_law_625 : decode code 625 = .ok (.iadd, 1) := by decide +kernel
theorem dL_law_626 : decode code 626 = .ok (.iaload, 1) := by decide +kernel
theorem dL_law_627 : decode code 627 = .ok (.aload_n 0, 1) := by decide +kernel
theorem dL_law_628 : decode code 628 = .ok (.iload 4, 2) := by decide +kernel
theorem dL_law_630 : decode code 630 = .ok (.iconst 3, 1) := by decide +kernel
theorem dL_law_631 : decode code 631 = .ok (.iadd, 1) := by decide +kernel
theorem dL_law_632 : decode code 632 = .ok (.iaload, 1) := by decide +kernel
theorem dL_law_633 : decode code 633 = .ok (.invokevirtual 93, 3) := by decide +kernel
theorem dL_law_636 : decode code 636 = .ok (.istore 6, 2) := by decide +kernel
theorem dL_law_638 : decode code 638 = .ok (.aload_n 2, 1) := by decide +kernel
theorem dL_law_639 : decode code 639 = .ok (.invokevirtual 65, 3) := by decide +kernel
theorem dL_law_642 : decode code 642 = .ok (.iload 5, 2) := by decide +kernel
theorem dL_law_644 : decode code 644 = .ok (.if_icmp .eq 5, 3) := by decide +kernel
theorem dL_law_647 : decode code 647 = .ok (.iconst 0, 1) := by decide +kernel
theorem dL_law_648 : decode code 648 = .ok (.ireturn, 1) := by decide +kernel
theorem dL_law_649 : decode code 649 = .ok (.iload 5, 2) := by decide +kernel
theorem dL_law_651 : decode code 651 = .ok (.ifCond .ne 15, 3) := by decide +kernel
theorem dL_law_654 : decode code 654 = .ok (.aload_n 3, 1) := by decide +kernel
theorem dL_law_655 : decode code 655 = .ok (.iconst 0, 1) := by decide +kernel
theorem dL_law_656 : decode code 656 = .ok (.laload, 1) := by decide +kernel
theorem dL_law_657 : decode code 657 = .ok (.iload 6, 2) := by decide +kernel
theorem dL_law_659 : decode code 659 = .ok (.i2l, 1) := by decide +kernel
theorem dL_law_660 : decode code 660 = .ok (.lcmp, 1) := by decide +kernel
theorem dL_law_661 : decode code 661 = .ok (.ifCond .eq 5, 3) := by decide +kernel
theorem dL_law_664 : decode code 664 = .ok (.iconst 0, 1) := by decide +kernel
theorem dL_law_665 : decode code 665 = .ok (.ireturn, 1) := by decide +kernel
theorem dL_law_666 : decode code 666 = .ok (.goto 152, 3) := by decide +kernel
theorem dL_law_669 : decode code 669 = .ok (.aload_n 1, 1) := by decide +kernel
theorem dL_law_670 : decode code 670 = .ok (.aload_n 0, 1) := by decide +kernel
theorem dL_law_671 : decode code 671 = .ok (.iload 4, 2) := by decide +kernel
theorem dL_law_673 : decode code 673 = .ok (.iconst 1, 1) := by decide +kernel
theorem dL_law_674 : decode code 674 = .ok (.iadd, 1) := by decide +kernel
theorem dL_law_675 : decode code 675 = .ok (.iaload, 1) := by decide +kernel
theorem dL_law_676 : decode code 676 = .ok (.aload_n 0, 1) := by decide +kernel
theorem dL_law_677 : decode code 677 = .ok (.iload 4, 2) := by decide +kernel
theorem dL_law_679 : decode code 679 = .ok (.iconst 2, 1) := by decide +kernel
theorem dL_law_680 : decode code 680 = .ok (.iadd, 1) := by decide +kernel
theorem dL_law_681 : decode code 681 = .ok (.iaload, 1) := by decide +kernel
theorem dL_law_682 : decode code 682 = .ok (.aload_n 3, 1) := by decide +kernel
theorem dL_law_683 : decode code 683 = .ok (.invokestatic 94, 3) := by decide +kernel
theorem dL_law_686 : decode code 686 = .ok (.istore 5, 2) := by decide +kernel
theorem dL_law_688 : decode code 688 = .ok (.aload_n 2, 1) := by decide +kernel
theorem dL_law_689 : decode code 689 = .ok (.aload_n 0, 1) := by decide +kernel
theorem dL_law_690 : decode code 690 = .ok (.iload 4, 2) := by decide +kernel
theorem dL_law_692 : decode code 692 = .ok (.iconst 1, 1) := by decide +kernel
theorem dL_law_693 : decode code 693 = .ok (.iadd, 1) := by decide +kernel
theorem dL_law_694 : decode code 694 = .ok (.iaload, 1) := by decide +kernel
theorem dL_law_695 : decode code 695 = .ok (.aload_n 0, 1) := by decide +kernel
theorem dL_law_696 : decode code 696 = .ok (.iload 4, 2) := by decide +kernel
theorem dL_law_698 : decode code 698 = .ok (.iconst 2, 1) := by decide +kernel
theorem dL_law_699 : decode code 699 = .ok (.iadd, 1) := by decide +kernel
theorem dL_law_700 : decode code 700 = .ok (.iaload, 1) := by decide +kernel
theorem dL_law_701 : decode code 701 = .ok (.invokevirtual 96, 3) := by decide +kernel
theorem dL_law_704 : decode code 704 = .ok (.istore 6, 2) := by decide +kernel
theorem dL_law_706 : decode code 706 = .ok (.aload_n 2, 1) := by decide +kernel
theorem dL_law_707 : decode code 707 = .ok (.invokevirtual 65, 3) := by decide +kernel
theorem dL_law_710 : decode code 710 = .ok (.iload 5, 2) := by decide +kernel
theorem dL_law_712 : decode code 712 = .ok (.if_icmp .eq 5, 3) := by decide +kernel
theorem dL_law_715 : decode code 715 = .ok (.iconst 0, 1) := by decide +kernel
theorem dL_law_716 : decode code 716 = .ok (.ireturn, 1) := by decide +kernel
theorem dL_law_717 : decode code 717 = .ok (.iload 5, 2) := by decide +kernel
theorem dL_law_719 : decode code 719 = .ok (.ifCond .ne 15, 3) := by decide +kernel
theorem dL_law_722 : decode code 722 = .ok (.aload_n 3, 1) := by decide +kernel
theorem dL_law_723 : decode code 723 = .ok (.iconst 0, 1) := by decide +kernel
theorem dL_law_724 : decode code 724 = .ok (.laload, 1) := by decide +kernel
theorem dL_law_725 : decode code 725 = .ok (.iload 6, 2) := by decide +kernel
theorem dL_law_727 : decode code 727 = .ok (.i2l, 1) := by decide +kernel
theorem dL_law_728 : decode code 728 = .ok (.lcmp, 1) := by decide +kernel
theorem dL_law_729 : decode code 729 = .ok (.ifCond .eq 5, 3) := by decide +kernel
theorem dL_law_732 : decode code 732 = .ok (.iconst 0, 1) := by decide +kernel
theorem dL_law_733 : decode code 733 = .ok (.ireturn, 1) := by decide +kernel
theorem dL_law_734 : decode code 734 = .ok (.goto 84, 3) := by decide +kernel
theorem dL_law_737 : decode code 737 = .ok (.aload_n 1, 1) := by decide +kernel
theorem dL_law_738 : decode code 738 = .ok (.invokevirtual 97, 3) := by decide +kernel
theorem dL_law_741 : decode code 741 = .ok (.aload_n 2, 1) := by decide +kernel
theorem dL_law_742 : decode code 742 = .ok (.invokevirtual 100, 3) := by decide +kernel
theorem dL_law_745 : decode code 745 = .ok (.if_icmp .eq 73, 3) := by decide +kernel
theorem dL_law_748 : decode code 748 = .ok (.iconst 0, 1) := by decide +kernel
theorem dL_law_749 : decode code 749 = .ok (.ireturn, 1) := by decide +kernel
theorem dL_law_750 : decode code 750 = .ok (.aload_n 1, 1) := by decide +kernel
theorem dL_law_751 : decode code 751 = .ok (.aload_n 0, 1) := by decide +kernel
theorem dL_law_752 : decode code 752 = .ok (.iload 4, 2) := by decide +kernel
theorem dL_law_754 : decode code 754 = .ok (.iconst 1, 1) := by decide +kernel
theorem dL_law_755 : decode code 755 = .ok (.iadd, 1) := by decide +kernel
theorem dL_law_756 : decode code 756 = .ok (.iaload, 1) := by decide +kernel
theorem dL_law_757 : decode code 757 = .ok (.aload_n 0, 1) := by decide +kernel
theorem dL_law_758 : decode code 758 = .ok (.iload 4, 2) := by decide +kernel
theorem dL_law_760 : decode code 760 = .ok (.iconst 2, 1) := by decide +kernel
theorem dL_law_761 : decode code 761 = .ok (.iadd, 1) := by decide +kernel
theorem dL_law_762 : decode code 762 = .ok (.iaload, 1) := by decide +kernel
theorem dL_law_763 : decode code 763 = .ok (.aload_n 3, 1) := by decide +kernel
theorem dL_law_764 : decode code 764 = .ok (.invokestatic 101, 3) := by decide +kernel
theorem dL_law_767 : decode code 767 = .ok (.istore 5, 2) := by decide +kernel
theorem dL_law_769 : decode code 769 = .ok (.aload_n 2, 1) := by decide +kernel
theorem dL_law_770 : decode code 770 = .ok (.aload_n 0, 1) := by decide +kernel
theorem dL_law_771 : decode code 771 = .ok (.iload 4, 2) := by decide +kernel
theorem dL_law_773 : decode code 773 = .ok (.iconst 1, 1) := by decide +kernel
theorem dL_law_774 : decode code 774 = .ok (.iadd, 1) := by decide +kernel
theorem dL_law_775 : decode code 775 = .ok (.iaload, 1) := by decide +kernel
theorem dL_law_776 : decode code 776 = .ok (.aload_n 0, 1) := by decide +kernel
theorem dL_law_777 : decode code 777 = .ok (.iload 4, 2) := by decide +kernel
theorem dL_law_779 : decode code 779 = .ok (.iconst 2, 1) := by decide +kernel
theorem dL_law_780 : decode code 780 = .ok (.iadd, 1) := by decide +kernel
theorem dL_law_781 : decode code 781 = .ok (.iaload, 1) := by decide +kernel
theorem dL_law_782 : decode code 782 = .ok (.invokevirtual 103, 3) := by decide +kernel
theorem dL_law_785 : decode code 785 = .ok (.istore 6, 2) := by decide +kernel
theorem dL_law_787 : decode code 787 = .ok (.aload_n 2, 1) := by decide +kernel
theorem dL_law_788 : decode code 788 = .ok (.invokevirtual 65, 3) := by decide +kernel
theorem dL_law_791 : decode code 791 = .ok (.iload 5, 2) := by decide +kernel
theorem dL_law_793 : decode code 793 = .ok (.if_icmp .eq 5, 3) := by decide +kernel
theorem dL_law_796 : decode code 796 = .ok (.iconst 0, 1) := by decide +kernel
theorem dL_law_797 : decode code 797 = .ok (.ireturn, 1) := by decide +kernel
theorem dL_law_798 : decode code 798 = .ok (.iload 5, 2) := by decide +kernel
theorem dL_law_800 : decode code 800 = .ok (.ifCond .ne 15, 3) := by decide +kernel
theorem dL_law_803 : decode code 803 = .ok (.aload_n 3, 1) := by decide +kernel
theorem dL_law_804 : decode code 804 = .ok (.iconst 0, 1) := by decide +kernel
theorem dL_law_805 : decode code 805 = .ok (.laload, 1) := by decide +kernel
theorem dL_law_806 : decode code 806 = .ok (.iload 6, 2) := by decide +kernel
theorem dL_law_808 : decode code 808 = .ok (.i2l, 1) := by decide +kernel
theorem dL_law_809 : decode code 809 = .ok (.lcmp, 1) := by decide +kernel
theorem dL_law_810 : decode code 810 = .ok (.ifCond .eq 5, 3) := by decide +kernel
theorem dL_law_813 : decode code 813 = .ok (.iconst 0, 1) := by decide +kernel
theorem dL_law_814 : decode code 814 = .ok (.ireturn, 1) := by decide +kernel
theorem dL_law_815 : decode code 815 = .ok (.goto 3, 3) := by decide +kernel
theorem dL_law_818 : decode code 818 = .ok (.iinc 4 4, 3) := by decide +kernel
theorem dL_law_821 : decode code 821 = .ok (.goto (-798), 3) := by decide +kernel
theorem dL_law_824 : decode code 824 = .ok (.iconst 1, 1) := by decide +kernel
theorem dL_law_825 : decode code 825 = .ok (.ireturn, 1) := by decide +kernel
