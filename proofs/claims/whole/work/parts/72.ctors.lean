/-! The small constructors. -/
theorem nz_byte (N : Nat) (cA : ClassId) : vp_cell cA (N, .inl (fun _ => 0)) = arrV cA N (fun _ => defaultValue .byte) := rfl
theorem nz_int (N : Nat) (cA : ClassId) : vp_cell cA (N, .inl (fun _ => 0)) = arrV cA N (fun _ => defaultValue .int) := rfl
def ci_P (D : va_G) (tC : Nat → ClassId) (as : List Value) (ws : va_W) (sz : Nat) : Array Value → State → Prop := va_Pc as (fun U => U.heap.size = sz ∧ va_P D CL ws U.heap ∧ va_K D CL (mm_tys tC) U ∧ va_D (fun _ => True) ws ∧ mm_NW NW U)
theorem ci_blind {D : va_G} {tC : Nat → ClassId} {as : List Value} {ws : va_W} {sz : Nat} : FrameBlind (ci_P D tC as ws sz) := by
  intro a U g mk q
  obtain ⟨q0, q1, qP, qK, qD, qN⟩ := q
  exact ⟨q0, q1, qP, va_K.moved (u := U) (U := U.calling g mk a) (Vm.Alike.refl U.vm) qK, qD, mm_NW_same (s := U) (U := U.calling g mk a) nw_nest rfl qN⟩
theorem tb_goodc {y : MethodName} {b : ByteArray} {n : Nat} {r : Option FieldType} (h : Cond.code y b n r ∈ TB) : GoodIn TB (Cond.code y b n r :: TB) := fun w hw => by
  rcases List.mem_cons.mp hw with rfl | h2
  · exact tb_good _ h
  · exact tb_good _ h2
set_option maxHeartbeats 4000000 in
set_option maxRecDepth 100000 in
theorem c_MK_init (l : Launch) (D : va_G) (tC : Nat → ClassId) (h0 sz : Nat) : Met l y_MK_init (Cond.code y_MK_init b_MK_init 1 none :: TB) { frames := 1, cells := 0, slots := 0, locals := 12 } (ci_P D tC [.ref h0] [(h0, .inr (3, [.int 0, .int 0, .int 0, .int 0]))] sz) (va_Qv (fun _ : Nat => True) (fun u t => va_P D CL [(h0, .inr (3, [.int 0, .int 0, .int 0, .int 0]))] t.heap ∧ va_D (va_A [(h0, .inr (3, [.int 0, .int 0, .int 0, .int 0]))] sz) [(h0, .inr (3, [.int 0, .int 0, .int 0, .int 0]))]) (va_A [(h0, .inr (3, [.int 0, .int 0, .int 0, .int 0]))] sz)) 0 0 (va_A [(h0, .inr (3, [.int 0, .int 0, .int 0, .int 0]))] sz) := by
  refine mm_ofW (cc := b_MK_init) (maxL := 1) (ret := none) (by decide +kernel) rfl ?_
  intro p e s m args below meth c s₁ B hml hv
  obtain ⟨rfl, hsz, hP, hK, hD0, hNW⟩ := hv
  have hx := B.exec
  have hb := B.bytes
  have hr := B.returns
  have hts0 := atoms_spec (ws := Cond.code y_MK_init b_MK_init 1 none :: TB) B.pre
  have hts : ∀ w ∈ TB, w.before ([.ref h0] : List Value).toArray s = true := fun w hw => hts0 w (List.mem_cons_of_mem _ hw)
  have hown : s.vm.findClass "TwoSlots$Maker" = some m.cls := findClass_of_methodNamed B.named
  have hlocks := B.notSynchronized
  have hin : meth.name = "<init>" := (name_of_methodNamed B.named B.method).1
  subst hsz
  have hD := hD0.self (sz := s.heap.size)
  generalize hAe : va_A [(h0, .inr (3, [.int 0, .int 0, .int 0, .int 0]))] s.heap.size = A at hD ⊢
  have hA : ∀ q : Nat, s.heap.size ≤ q → A q := fun q h => by rw [← hAe]; exact Or.inr h
  have hS : va_S A s.heap s.heap [] := va_S.rf
  have hl := lv_entry ([.ref h0]) (n := 1) (Nat.le_of_ble_eq_true rfl)
  rw [lg_entry_eq]
  generalize (lg_sl ([.ref h0]) ++ List.replicate (1 - (lg_sl ([.ref h0])).length) Slot.unset).toArray = ls at hl ⊢
  have hl : lv_has ls 1 [(0, .ref h0)] := hl
  refine lv_aload_n hx hb d_MK_init_0 rfl (lv_at hl 0 rfl) ?_
  refine W.objInit hx hb hown (hts _ tl_MK_obj) (hts _ tv_obj) (hts _ tc_obj) rfl (by rw [hml]; exact hl.1) rfl d_MK_init_1 (Nat.le_of_ble_eq_true rfl) (Nat.le_of_ble_eq_true rfl) ?_
  refine W.eq (g2 := F0 m 4 ls []) rfl ?_
  refine lv_aload_n hx hb d_MK_init_4 rfl (lv_at hl 0 rfl) ?_
  refine lv_iconst (v := 0) hx hb d_MK_init_5 (by decide) ?_
  have g1 : CL[3]? = some ("TwoSlots$Maker", F_MK, 4) := rfl
  have g2 : (Cond.fieldLink "TwoSlots$Maker" 9 "TwoSlots$Maker" (F_MK 0).2.1 (F_MK 0).2.2.1).before ([.ref h0] : List Value).toArray s = true := hts _ tf_MK_9
  have g3 : parseFieldDescriptor (F_MK 0).2.2.1 = some (.int) := by decide +kernel
  have g4 : (F_MK 0).2.2.2 = false := rfl
  refine va_put (D := D) (ci := 3) (v := .int 0) (ty := .int) (C := "TwoSlots$Maker") (T := F_MK) (N := 4) (index := 9) (ref := "TwoSlots$Maker") hx hb hts ww_MK t_MK tt_MK nn_MK hown hK hP hD hS 0 rfl g1 0 (by decide) g2 (fun _ h9 => h9) g4 g3 rfl rfl (Nat.le_of_ble_eq_true rfl) d_MK_init_6 (fun H locs hP hD hS => ?_)
  have hP : va_P D CL [(h0, .inr (3, [.int 0, .int 0, .int 0, .int 0]))] H := hP
  have hD : va_D A [(h0, .inr (3, [.int 0, .int 0, .int 0, .int 0]))] := hD
  refine lv_aload_n hx hb d_MK_init_9 rfl (lv_at hl 0 rfl) ?_
  refine lv_iconst (v := 0) hx hb d_MK_init_10 (by decide) ?_
  have g1 : CL[3]? = some ("TwoSlots$Maker", F_MK, 4) := rfl
  have g2 : (Cond.fieldLink "TwoSlots$Maker" 15 "TwoSlots$Maker" (F_MK 1).2.1 (F_MK 1).2.2.1).before ([.ref h0] : List Value).toArray s = true := hts _ tf_MK_15
  have g3 : parseFieldDescriptor (F_MK 1).2.2.1 = some (.int) := by decide +kernel
  have g4 : (F_MK 1).2.2.2 = false := rfl
  refine va_put (D := D) (ci := 3) (v := .int 0) (ty := .int) (C := "TwoSlots$Maker") (T := F_MK) (N := 4) (index := 15) (ref := "TwoSlots$Maker") hx hb hts ww_MK t_MK tt_MK nn_MK hown hK hP hD hS 0 rfl g1 1 (by decide) g2 (fun _ h9 => h9) g4 g3 rfl rfl (Nat.le_of_ble_eq_true rfl) d_MK_init_11 (fun H locs hP hD hS => ?_)
  have hP : va_P D CL [(h0, .inr (3, [.int 0, .int 0, .int 0, .int 0]))] H := hP
  have hD : va_D A [(h0, .inr (3, [.int 0, .int 0, .int 0, .int 0]))] := hD
  refine lv_aload_n hx hb d_MK_init_14 rfl (lv_at hl 0 rfl) ?_
  refine lv_iconst (v := 0) hx hb d_MK_init_15 (by decide) ?_
  have g1 : CL[3]? = some ("TwoSlots$Maker", F_MK, 4) := rfl
  have g2 : (Cond.fieldLink "TwoSlots$Maker" 18 "TwoSlots$Maker" (F_MK 2).2.1 (F_MK 2).2.2.1).before ([.ref h0] : List Value).toArray s = true := hts _ tf_MK_18
  have g3 : parseFieldDescriptor (F_MK 2).2.2.1 = some (.int) := by decide +kernel
  have g4 : (F_MK 2).2.2.2 = false := rfl
  refine va_put (D := D) (ci := 3) (v := .int 0) (ty := .int) (C := "TwoSlots$Maker") (T := F_MK) (N := 4) (index := 18) (ref := "TwoSlots$Maker") hx hb hts ww_MK t_MK tt_MK nn_MK hown hK hP hD hS 0 rfl g1 2 (by decide) g2 (fun _ h9 => h9) g4 g3 rfl rfl (Nat.le_of_ble_eq_true rfl) d_MK_init_16 (fun H locs hP hD hS => ?_)
  have hP : va_P D CL [(h0, .inr (3, [.int 0, .int 0, .int 0, .int 0]))] H := hP
  have hD : va_D A [(h0, .inr (3, [.int 0, .int 0, .int 0, .int 0]))] := hD
  refine lv_aload_n hx hb d_MK_init_19 rfl (lv_at hl 0 rfl) ?_
  refine lv_iconst (v := 0) hx hb d_MK_init_20 (by decide) ?_
  have g1 : CL[3]? = some ("TwoSlots$Maker", F_MK, 4) := rfl
  have g2 : (Cond.fieldLink "TwoSlots$Maker" 21 "TwoSlots$Maker" (F_MK 3).2.1 (F_MK 3).2.2.1).before ([.ref h0] : List Value).toArray s = true := hts _ tf_MK_21
  have g3 : parseFieldDescriptor (F_MK 3).2.2.1 = some (.int) := by decide +kernel
  have g4 : (F_MK 3).2.2.2 = false := rfl
  refine va_put (D := D) (ci := 3) (v := .int 0) (ty := .int) (C := "TwoSlots$Maker") (T := F_MK) (N := 4) (index := 21) (ref := "TwoSlots$Maker") hx hb hts ww_MK t_MK tt_MK nn_MK hown hK hP hD hS 0 rfl g1 3 (by decide) g2 (fun _ h9 => h9) g4 g3 rfl rfl (Nat.le_of_ble_eq_true rfl) d_MK_init_21 (fun H locs hP hD hS => ?_)
  have hP : va_P D CL [(h0, .inr (3, [.int 0, .int 0, .int 0, .int 0]))] H := hP
  have hD : va_D A [(h0, .inr (3, [.int 0, .int 0, .int 0, .int 0]))] := hD
  exact W.vret hx hb hr (fun t ht hW => ⟨⟨0, rfl, trivial, by rw [ht]; exact hP, hD⟩, hS.F ht⟩) hS.2.2 d_MK_init_24
set_option maxHeartbeats 4000000 in
set_option maxRecDepth 100000 in
theorem c_HD_init (l : Launch) (D : va_G) (tC : Nat → ClassId) (h0 sz : Nat) : Met l y_HD_init (Cond.code y_HD_init b_HD_init 1 none :: TB) { frames := 1, cells := 1, slots := 64, locals := 12 } (ci_P D tC [.ref h0] [(h0, .inr (4, [.null]))] sz) (va_Qv (fun _ : Nat => True) (fun u t => va_P D CL [(h0, .inr (4, [.ref u])), (u, .inl (tC 0, 64, .inl (fun _ => 0)))] t.heap ∧ va_D (va_A [(h0, .inr (4, [.null]))] sz) [(h0, .inr (4, [.ref u])), (u, .inl (tC 0, 64, .inl (fun _ => 0)))]) (va_A [(h0, .inr (4, [.null]))] sz)) 1 64 (va_A [(h0, .inr (4, [.null]))] sz) := by
  refine mm_ofW (cc := b_HD_init) (maxL := 1) (ret := none) (by decide +kernel) rfl ?_
  intro p e s m args below meth c s₁ B hml hv
  obtain ⟨rfl, hsz, hP, hK, hD0, hNW⟩ := hv
  have hx := B.exec
  have hb := B.bytes
  have hr := B.returns
  have hts0 := atoms_spec (ws := Cond.code y_HD_init b_HD_init 1 none :: TB) B.pre
  have hts : ∀ w ∈ TB, w.before ([.ref h0] : List Value).toArray s = true := fun w hw => hts0 w (List.mem_cons_of_mem _ hw)
  have hown : s.vm.findClass "TwoSlots$Header" = some m.cls := findClass_of_methodNamed B.named
  have hlocks := B.notSynchronized
  have hin : meth.name = "<init>" := (name_of_methodNamed B.named B.method).1
  subst hsz
  have hD := hD0.self (sz := s.heap.size)
  generalize hAe : va_A [(h0, .inr (4, [.null]))] s.heap.size = A at hD ⊢
  have hA : ∀ q : Nat, s.heap.size ≤ q → A q := fun q h => by rw [← hAe]; exact Or.inr h
  have hS : va_S A s.heap s.heap [] := va_S.rf
  have hl := lv_entry ([.ref h0]) (n := 1) (Nat.le_of_ble_eq_true rfl)
  rw [lg_entry_eq]
  generalize (lg_sl ([.ref h0]) ++ List.replicate (1 - (lg_sl ([.ref h0])).length) Slot.unset).toArray = ls at hl ⊢
  have hl : lv_has ls 1 [(0, .ref h0)] := hl
  refine lv_aload_n hx hb d_HD_init_0 rfl (lv_at hl 0 rfl) ?_
  refine W.objInit hx hb hown (hts _ tl_HD_obj) (hts _ tv_obj) (hts _ tc_obj) rfl (by rw [hml]; exact hl.1) rfl d_HD_init_1 (Nat.le_of_ble_eq_true rfl) (Nat.le_of_ble_eq_true rfl) ?_
  refine W.eq (g2 := F0 m 4 ls []) rfl ?_
  refine lv_aload_n hx hb d_HD_init_4 rfl (lv_at hl 0 rfl) ?_
  refine lv_bipush (v := 64) hx hb d_HD_init_5 (by decide) ?_
  refine va_newT (ty := .byte) (atype := .byte) hx hb (hts _ ta_byte) rfl (fun C h => by cases h) hK (t0 := 0) (cT := tC 0) rfl hP hD hS hA (n := 64) (N' := 64) (a0 := (64, .inl (fun _ => 0))) (nz_byte 64) (by decide) (by decide) (by decide) (Nat.le_of_ble_eq_true rfl) (Nat.le_of_ble_eq_true rfl) d_HD_init_7 (fun q1 H hP hD hS => ?_)
  have hP : va_P D CL [(h0, .inr (4, [.null])), (q1, .inl (tC 0, 64, .inl (fun _ => 0)))] H := hP
  have hD : va_D A [(h0, .inr (4, [.null])), (q1, .inl (tC 0, 64, .inl (fun _ => 0)))] := hD
  refine W.widen (k := 1) (n := 64) (Nat.le_refl _) (Nat.le_refl _) ?_
  have g1 : CL[4]? = some ("TwoSlots$Header", F_HD, 1) := rfl
  have g2 : (Cond.fieldLink "TwoSlots$Header" 9 "TwoSlots$Header" (F_HD 0).2.1 (F_HD 0).2.2.1).before ([.ref h0] : List Value).toArray s = true := hts _ tf_HD_9
  have g3 : parseFieldDescriptor (F_HD 0).2.2.1 = some (.array .byte) := by decide +kernel
  have g4 : (F_HD 0).2.2.2 = true := rfl
  refine va_putF (D := D) (ci := 4) (v := .ref q1) (ty := .array .byte) (C := "TwoSlots$Header") (T := F_HD) (N := 1) (index := 9) (ref := "TwoSlots$Header") hx hb hts ww_HD t_HD tt_HD nn_HD hown hK hP hD hS 0 rfl g1 0 (by decide) g2 (fun _ h9 => h9) g4 hin rfl g3 rfl rfl (Nat.le_of_ble_eq_true rfl) d_HD_init_9 (fun H locs hP hD hS => ?_)
  have hP : va_P D CL [(h0, .inr (4, [.ref q1])), (q1, .inl (tC 0, 64, .inl (fun _ => 0)))] H := hP
  have hD : va_D A [(h0, .inr (4, [.ref q1])), (q1, .inl (tC 0, 64, .inl (fun _ => 0)))] := hD
  exact W.vret hx hb hr (fun t ht hW => ⟨⟨q1, rfl, trivial, by rw [ht]; exact hP, hD⟩, hS.F ht⟩) hS.2.2 d_HD_init_12
set_option maxHeartbeats 4000000 in
set_option maxRecDepth 100000 in
theorem c_LG_init (l : Launch) (D : va_G) (tC : Nat → ClassId) (h0 fl sz : Nat) : Met l y_LG_init (Cond.code y_LG_init b_LG_init 2 none :: TB) { frames := 1, cells := 1, slots := 16, locals := 12 } (ci_P D tC [.ref h0, .ref fl] [(h0, .inr (2, [.null, .null, .int 0, .int 0, .int 0, .int 0, .int 0, .int 0, .int 0, .int 0]))] sz) (va_Qv (fun _ : Nat => True) (fun u t => va_P D CL [(h0, .inr (2, [.ref fl, .ref u, .int 0, .int (-1), .int 0, .int (-1), .int (-1), .int 0, .int 0, .int 0])), (u, .inl (tC 0, 16, .inl (fun _ => 0)))] t.heap ∧ va_D (va_A [(h0, .inr (2, [.null, .null, .int 0, .int 0, .int 0, .int 0, .int 0, .int 0, .int 0, .int 0]))] sz) [(h0, .inr (2, [.ref fl, .ref u, .int 0, .int (-1), .int 0, .int (-1), .int (-1), .int 0, .int 0, .int 0])), (u, .inl (tC 0, 16, .inl (fun _ => 0)))]) (va_A [(h0, .inr (2, [.null, .null, .int 0, .int 0, .int 0, .int 0, .int 0, .int 0, .int 0, .int 0]))] sz)) 1 16 (va_A [(h0, .inr (2, [.null, .null, .int 0, .int 0, .int 0, .int 0, .int 0, .int 0, .int 0, .int 0]))] sz) := by
  refine mm_ofW (cc := b_LG_init) (maxL := 2) (ret := none) (by decide +kernel) rfl ?_
  intro p e s m args below meth c s₁ B hml hv
  obtain ⟨rfl, hsz, hP, hK, hD0, hNW⟩ := hv
  have hx := B.exec
  have hb := B.bytes
  have hr := B.returns
  have hts0 := atoms_spec (ws := Cond.code y_LG_init b_LG_init 2 none :: TB) B.pre
  have hts : ∀ w ∈ TB, w.before ([.ref h0, .ref fl] : List Value).toArray s = true := fun w hw => hts0 w (List.mem_cons_of_mem _ hw)
  have hown : s.vm.findClass "TwoSlots$Log" = some m.cls := findClass_of_methodNamed B.named
  have hlocks := B.notSynchronized
  have hin : meth.name = "<init>" := (name_of_methodNamed B.named B.method).1
  subst hsz
  have hD := hD0.self (sz := s.heap.size)
  generalize hAe : va_A [(h0, .inr (2, [.null, .null, .int 0, .int 0, .int 0, .int 0, .int 0, .int 0, .int 0, .int 0]))] s.heap.size = A at hD ⊢
  have hA : ∀ q : Nat, s.heap.size ≤ q → A q := fun q h => by rw [← hAe]; exact Or.inr h
  have hS : va_S A s.heap s.heap [] := va_S.rf
  have hl := lv_entry ([.ref h0, .ref fl]) (n := 2) (Nat.le_of_ble_eq_true rfl)
  rw [lg_entry_eq]
  generalize (lg_sl ([.ref h0, .ref fl]) ++ List.replicate (2 - (lg_sl ([.ref h0, .ref fl])).length) Slot.unset).toArray = ls at hl ⊢
  have hl : lv_has ls 2 [(0, .ref h0), (1, .ref fl)] := hl
  refine lv_aload_n hx hb d_LG_init_0 rfl (lv_at hl 0 rfl) ?_
  refine W.objInit hx hb hown (hts _ tl_LG_obj) (hts _ tv_obj) (hts _ tc_obj) rfl (by rw [hml]; exact hl.1) rfl d_LG_init_1 (Nat.le_of_ble_eq_true rfl) (Nat.le_of_ble_eq_true rfl) ?_
  refine W.eq (g2 := F0 m 4 ls []) rfl ?_
  refine lv_aload_n hx hb d_LG_init_4 rfl (lv_at hl 0 rfl) ?_
  refine lv_bipush (v := 16) hx hb d_LG_init_5 (by decide) ?_
  refine va_newT (ty := .byte) (atype := .byte) hx hb (hts _ ta_byte) rfl (fun C h => by cases h) hK (t0 := 0) (cT := tC 0) rfl hP hD hS hA (n := 16) (N' := 16) (a0 := (16, .inl (fun _ => 0))) (nz_byte 16) (by decide) (by decide) (by decide) (Nat.le_of_ble_eq_true rfl) (Nat.le_of_ble_eq_true rfl) d_LG_init_7 (fun q1 H hP hD hS => ?_)
  have hP : va_P D CL [(h0, .inr (2, [.null, .null, .int 0, .int 0, .int 0, .int 0, .int 0, .int 0, .int 0, .int 0])), (q1, .inl (tC 0, 16, .inl (fun _ => 0)))] H := hP
  have hD : va_D A [(h0, .inr (2, [.null, .null, .int 0, .int 0, .int 0, .int 0, .int 0, .int 0, .int 0, .int 0])), (q1, .inl (tC 0, 16, .inl (fun _ => 0)))] := hD
  refine W.widen (k := 1) (n := 16) (Nat.le_refl _) (Nat.le_refl _) ?_
  have g1 : CL[2]? = some ("TwoSlots$Log", F_LG, 10) := rfl
  have g2 : (Cond.fieldLink "TwoSlots$Log" 9 "TwoSlots$Log" (F_LG 1).2.1 (F_LG 1).2.2.1).before ([.ref h0, .ref fl] : List Value).toArray s = true := hts _ tf_LG_9
  have g3 : parseFieldDescriptor (F_LG 1).2.2.1 = some (.array .byte) := by decide +kernel
  have g4 : (F_LG 1).2.2.2 = true := rfl
  refine va_putF (D := D) (ci := 2) (v := .ref q1) (ty := .array .byte) (C := "TwoSlots$Log") (T := F_LG) (N := 10) (index := 9) (ref := "TwoSlots$Log") hx hb hts ww_LG t_LG tt_LG nn_LG hown hK hP hD hS 0 rfl g1 1 (by decide) g2 (fun _ h9 => h9) g4 hin rfl g3 rfl rfl (Nat.le_of_ble_eq_true rfl) d_LG_init_9 (fun H locs hP hD hS => ?_)
  have hP : va_P D CL [(h0, .inr (2, [.null, .ref q1, .int 0, .int 0, .int 0, .int 0, .int 0, .int 0, .int 0, .int 0])), (q1, .inl (tC 0, 16, .inl (fun _ => 0)))] H := hP
  have hD : va_D A [(h0, .inr (2, [.null, .ref q1, .int 0, .int 0, .int 0, .int 0, .int 0, .int 0, .int 0, .int 0])), (q1, .inl (tC 0, 16, .inl (fun _ => 0)))] := hD
  refine lv_aload_n hx hb d_LG_init_12 rfl (lv_at hl 0 rfl) ?_
  refine lv_iconst (v := 0) hx hb d_LG_init_13 (by decide) ?_
  have g1 : CL[2]? = some ("TwoSlots$Log", F_LG, 10) := rfl
  have g2 : (Cond.fieldLink "TwoSlots$Log" 15 "TwoSlots$Log" (F_LG 2).2.1 (F_LG 2).2.2.1).before ([.ref h0, .ref fl] : List Value).toArray s = true := hts _ tf_LG_15
  have g3 : parseFieldDescriptor (F_LG 2).2.2.1 = some (.int) := by decide +kernel
  have g4 : (F_LG 2).2.2.2 = false := rfl
  refine va_put (D := D) (ci := 2) (v := .int 0) (ty := .int) (C := "TwoSlots$Log") (T := F_LG) (N := 10) (index := 15) (ref := "TwoSlots$Log") hx hb hts ww_LG t_LG tt_LG nn_LG hown hK hP hD hS 0 rfl g1 2 (by decide) g2 (fun _ h9 => h9) g4 g3 rfl rfl (Nat.le_of_ble_eq_true rfl) d_LG_init_14 (fun H locs hP hD hS => ?_)
  have hP : va_P D CL [(h0, .inr (2, [.null, .ref q1, .int 0, .int 0, .int 0, .int 0, .int 0, .int 0, .int 0, .int 0])), (q1, .inl (tC 0, 16, .inl (fun _ => 0)))] H := hP
  have hD : va_D A [(h0, .inr (2, [.null, .ref q1, .int 0, .int 0, .int 0, .int 0, .int 0, .int 0, .int 0, .int 0])), (q1, .inl (tC 0, 16, .inl (fun _ => 0)))] := hD
  refine lv_aload_n hx hb d_LG_init_17 rfl (lv_at hl 0 rfl) ?_
  refine lv_iconst (v := -1) hx hb d_LG_init_18 (by decide) ?_
  have g1 : CL[2]? = some ("TwoSlots$Log", F_LG, 10) := rfl
  have g2 : (Cond.fieldLink "TwoSlots$Log" 19 "TwoSlots$Log" (F_LG 3).2.1 (F_LG 3).2.2.1).before ([.ref h0, .ref fl] : List Value).toArray s = true := hts _ tf_LG_19
  have g3 : parseFieldDescriptor (F_LG 3).2.2.1 = some (.int) := by decide +kernel
  have g4 : (F_LG 3).2.2.2 = false := rfl
  refine va_put (D := D) (ci := 2) (v := .int (-1)) (ty := .int) (C := "TwoSlots$Log") (T := F_LG) (N := 10) (index := 19) (ref := "TwoSlots$Log") hx hb hts ww_LG t_LG tt_LG nn_LG hown hK hP hD hS 0 rfl g1 3 (by decide) g2 (fun _ h9 => h9) g4 g3 rfl rfl (Nat.le_of_ble_eq_true rfl) d_LG_init_19 (fun H locs hP hD hS => ?_)
  have hP : va_P D CL [(h0, .inr (2, [.null, .ref q1, .int 0, .int (-1), .int 0, .int 0, .int 0, .int 0, .int 0, .int 0])), (q1, .inl (tC 0, 16, .inl (fun _ => 0)))] H := hP
  have hD : va_D A [(h0, .inr (2, [.null, .ref q1, .int 0, .int (-1), .int 0, .int 0, .int 0, .int 0, .int 0, .int 0])), (q1, .inl (tC 0, 16, .inl (fun _ => 0)))] := hD
  refine lv_aload_n hx hb d_LG_init_22 rfl (lv_at hl 0 rfl) ?_
  refine lv_iconst (v := 0) hx hb d_LG_init_23 (by decide) ?_
  have g1 : CL[2]? = some ("TwoSlots$Log", F_LG, 10) := rfl
  have g2 : (Cond.fieldLink "TwoSlots$Log" 22 "TwoSlots$Log" (F_LG 4).2.1 (F_LG 4).2.2.1).before ([.ref h0, .ref fl] : List Value).toArray s = true := hts _ tf_LG_22
  have g3 : parseFieldDescriptor (F_LG 4).2.2.1 = some (.int) := by decide +kernel
  have g4 : (F_LG 4).2.2.2 = false := rfl
  refine va_put (D := D) (ci := 2) (v := .int 0) (ty := .int) (C := "TwoSlots$Log") (T := F_LG) (N := 10) (index := 22) (ref := "TwoSlots$Log") hx hb hts ww_LG t_LG tt_LG nn_LG hown hK hP hD hS 0 rfl g1 4 (by decide) g2 (fun _ h9 => h9) g4 g3 rfl rfl (Nat.le_of_ble_eq_true rfl) d_LG_init_24 (fun H locs hP hD hS => ?_)
  have hP : va_P D CL [(h0, .inr (2, [.null, .ref q1, .int 0, .int (-1), .int 0, .int 0, .int 0, .int 0, .int 0, .int 0])), (q1, .inl (tC 0, 16, .inl (fun _ => 0)))] H := hP
  have hD : va_D A [(h0, .inr (2, [.null, .ref q1, .int 0, .int (-1), .int 0, .int 0, .int 0, .int 0, .int 0, .int 0])), (q1, .inl (tC 0, 16, .inl (fun _ => 0)))] := hD
  refine lv_aload_n hx hb d_LG_init_27 rfl (lv_at hl 0 rfl) ?_
  refine lv_iconst (v := -1) hx hb d_LG_init_28 (by decide) ?_
  have g1 : CL[2]? = some ("TwoSlots$Log", F_LG, 10) := rfl
  have g2 : (Cond.fieldLink "TwoSlots$Log" 25 "TwoSlots$Log" (F_LG 5).2.1 (F_LG 5).2.2.1).before ([.ref h0, .ref fl] : List Value).toArray s = true := hts _ tf_LG_25
  have g3 : parseFieldDescriptor (F_LG 5).2.2.1 = some (.int) := by decide +kernel
  have g4 : (F_LG 5).2.2.2 = false := rfl
  refine va_put (D := D) (ci := 2) (v := .int (-1)) (ty := .int) (C := "TwoSlots$Log") (T := F_LG) (N := 10) (index := 25) (ref := "TwoSlots$Log") hx hb hts ww_LG t_LG tt_LG nn_LG hown hK hP hD hS 0 rfl g1 5 (by decide) g2 (fun _ h9 => h9) g4 g3 rfl rfl (Nat.le_of_ble_eq_true rfl) d_LG_init_29 (fun H locs hP hD hS => ?_)
  have hP : va_P D CL [(h0, .inr (2, [.null, .ref q1, .int 0, .int (-1), .int 0, .int (-1), .int 0, .int 0, .int 0, .int 0])), (q1, .inl (tC 0, 16, .inl (fun _ => 0)))] H := hP
  have hD : va_D A [(h0, .inr (2, [.null, .ref q1, .int 0, .int (-1), .int 0, .int (-1), .int 0, .int 0, .int 0, .int 0])), (q1, .inl (tC 0, 16, .inl (fun _ => 0)))] := hD
  refine lv_aload_n hx hb d_LG_init_32 rfl (lv_at hl 0 rfl) ?_
  refine lv_iconst (v := -1) hx hb d_LG_init_33 (by decide) ?_
  have g1 : CL[2]? = some ("TwoSlots$Log", F_LG, 10) := rfl
  have g2 : (Cond.fieldLink "TwoSlots$Log" 28 "TwoSlots$Log" (F_LG 6).2.1 (F_LG 6).2.2.1).before ([.ref h0, .ref fl] : List Value).toArray s = true := hts _ tf_LG_28
  have g3 : parseFieldDescriptor (F_LG 6).2.2.1 = some (.int) := by decide +kernel
  have g4 : (F_LG 6).2.2.2 = false := rfl
  refine va_put (D := D) (ci := 2) (v := .int (-1)) (ty := .int) (C := "TwoSlots$Log") (T := F_LG) (N := 10) (index := 28) (ref := "TwoSlots$Log") hx hb hts ww_LG t_LG tt_LG nn_LG hown hK hP hD hS 0 rfl g1 6 (by decide) g2 (fun _ h9 => h9) g4 g3 rfl rfl (Nat.le_of_ble_eq_true rfl) d_LG_init_34 (fun H locs hP hD hS => ?_)
  have hP : va_P D CL [(h0, .inr (2, [.null, .ref q1, .int 0, .int (-1), .int 0, .int (-1), .int (-1), .int 0, .int 0, .int 0])), (q1, .inl (tC 0, 16, .inl (fun _ => 0)))] H := hP
  have hD : va_D A [(h0, .inr (2, [.null, .ref q1, .int 0, .int (-1), .int 0, .int (-1), .int (-1), .int 0, .int 0, .int 0])), (q1, .inl (tC 0, 16, .inl (fun _ => 0)))] := hD
  refine lv_aload_n hx hb d_LG_init_37 rfl (lv_at hl 0 rfl) ?_
  refine lv_iconst (v := 0) hx hb d_LG_init_38 (by decide) ?_
  have g1 : CL[2]? = some ("TwoSlots$Log", F_LG, 10) := rfl
  have g2 : (Cond.fieldLink "TwoSlots$Log" 31 "TwoSlots$Log" (F_LG 7).2.1 (F_LG 7).2.2.1).before ([.ref h0, .ref fl] : List Value).toArray s = true := hts _ tf_LG_31
  have g3 : parseFieldDescriptor (F_LG 7).2.2.1 = some (.int) := by decide +kernel
  have g4 : (F_LG 7).2.2.2 = false := rfl
  refine va_put (D := D) (ci := 2) (v := .int 0) (ty := .int) (C := "TwoSlots$Log") (T := F_LG) (N := 10) (index := 31) (ref := "TwoSlots$Log") hx hb hts ww_LG t_LG tt_LG nn_LG hown hK hP hD hS 0 rfl g1 7 (by decide) g2 (fun _ h9 => h9) g4 g3 rfl rfl (Nat.le_of_ble_eq_true rfl) d_LG_init_39 (fun H locs hP hD hS => ?_)
  have hP : va_P D CL [(h0, .inr (2, [.null, .ref q1, .int 0, .int (-1), .int 0, .int (-1), .int (-1), .int 0, .int 0, .int 0])), (q1, .inl (tC 0, 16, .inl (fun _ => 0)))] H := hP
  have hD : va_D A [(h0, .inr (2, [.null, .ref q1, .int 0, .int (-1), .int 0, .int (-1), .int (-1), .int 0, .int 0, .int 0])), (q1, .inl (tC 0, 16, .inl (fun _ => 0)))] := hD
  refine lv_aload_n hx hb d_LG_init_42 rfl (lv_at hl 0 rfl) ?_
  refine lv_iconst (v := 0) hx hb d_LG_init_43 (by decide) ?_
  have g1 : CL[2]? = some ("TwoSlots$Log", F_LG, 10) := rfl
  have g2 : (Cond.fieldLink "TwoSlots$Log" 34 "TwoSlots$Log" (F_LG 8).2.1 (F_LG 8).2.2.1).before ([.ref h0, .ref fl] : List Value).toArray s = true := hts _ tf_LG_34
  have g3 : parseFieldDescriptor (F_LG 8).2.2.1 = some (.int) := by decide +kernel
  have g4 : (F_LG 8).2.2.2 = false := rfl
  refine va_put (D := D) (ci := 2) (v := .int 0) (ty := .int) (C := "TwoSlots$Log") (T := F_LG) (N := 10) (index := 34) (ref := "TwoSlots$Log") hx hb hts ww_LG t_LG tt_LG nn_LG hown hK hP hD hS 0 rfl g1 8 (by decide) g2 (fun _ h9 => h9) g4 g3 rfl rfl (Nat.le_of_ble_eq_true rfl) d_LG_init_44 (fun H locs hP hD hS => ?_)
  have hP : va_P D CL [(h0, .inr (2, [.null, .ref q1, .int 0, .int (-1), .int 0, .int (-1), .int (-1), .int 0, .int 0, .int 0])), (q1, .inl (tC 0, 16, .inl (fun _ => 0)))] H := hP
  have hD : va_D A [(h0, .inr (2, [.null, .ref q1, .int 0, .int (-1), .int 0, .int (-1), .int (-1), .int 0, .int 0, .int 0])), (q1, .inl (tC 0, 16, .inl (fun _ => 0)))] := hD
  refine lv_aload_n hx hb d_LG_init_47 rfl (lv_at hl 0 rfl) ?_
  refine lv_iconst (v := 0) hx hb d_LG_init_48 (by decide) ?_
  have g1 : CL[2]? = some ("TwoSlots$Log", F_LG, 10) := rfl
  have g2 : (Cond.fieldLink "TwoSlots$Log" 37 "TwoSlots$Log" (F_LG 9).2.1 (F_LG 9).2.2.1).before ([.ref h0, .ref fl] : List Value).toArray s = true := hts _ tf_LG_37
  have g3 : parseFieldDescriptor (F_LG 9).2.2.1 = some (.int) := by decide +kernel
  have g4 : (F_LG 9).2.2.2 = false := rfl
  refine va_put (D := D) (ci := 2) (v := .int 0) (ty := .int) (C := "TwoSlots$Log") (T := F_LG) (N := 10) (index := 37) (ref := "TwoSlots$Log") hx hb hts ww_LG t_LG tt_LG nn_LG hown hK hP hD hS 0 rfl g1 9 (by decide) g2 (fun _ h9 => h9) g4 g3 rfl rfl (Nat.le_of_ble_eq_true rfl) d_LG_init_49 (fun H locs hP hD hS => ?_)
  have hP : va_P D CL [(h0, .inr (2, [.null, .ref q1, .int 0, .int (-1), .int 0, .int (-1), .int (-1), .int 0, .int 0, .int 0])), (q1, .inl (tC 0, 16, .inl (fun _ => 0)))] H := hP
  have hD : va_D A [(h0, .inr (2, [.null, .ref q1, .int 0, .int (-1), .int 0, .int (-1), .int (-1), .int 0, .int 0, .int 0])), (q1, .inl (tC 0, 16, .inl (fun _ => 0)))] := hD
  refine lv_aload_n hx hb d_LG_init_52 rfl (lv_at hl 0 rfl) ?_
  refine lv_aload_n hx hb d_LG_init_53 rfl (lv_at hl 1 rfl) ?_
  have g1 : CL[2]? = some ("TwoSlots$Log", F_LG, 10) := rfl
  have g2 : (Cond.fieldLink "TwoSlots$Log" 40 "TwoSlots$Log" (F_LG 0).2.1 (F_LG 0).2.2.1).before ([.ref h0, .ref fl] : List Value).toArray s = true := hts _ tf_LG_40
  have g3 : parseFieldDescriptor (F_LG 0).2.2.1 = some (.object "TwoSlots$Flash") := by decide +kernel
  have g4 : (F_LG 0).2.2.2 = true := rfl
  refine va_putF (D := D) (ci := 2) (v := .ref fl) (ty := .object "TwoSlots$Flash") (C := "TwoSlots$Log") (T := F_LG) (N := 10) (index := 40) (ref := "TwoSlots$Log") hx hb hts ww_LG t_LG tt_LG nn_LG hown hK hP hD hS 0 rfl g1 0 (by decide) g2 (fun _ h9 => h9) g4 hin rfl g3 rfl rfl (Nat.le_of_ble_eq_true rfl) d_LG_init_54 (fun H locs hP hD hS => ?_)
  have hP : va_P D CL [(h0, .inr (2, [.ref fl, .ref q1, .int 0, .int (-1), .int 0, .int (-1), .int (-1), .int 0, .int 0, .int 0])), (q1, .inl (tC 0, 16, .inl (fun _ => 0)))] H := hP
  have hD : va_D A [(h0, .inr (2, [.ref fl, .ref q1, .int 0, .int (-1), .int 0, .int (-1), .int (-1), .int 0, .int 0, .int 0])), (q1, .inl (tC 0, 16, .inl (fun _ => 0)))] := hD
  exact W.vret hx hb hr (fun t ht hW => ⟨⟨q1, rfl, trivial, by rw [ht]; exact hP, hD⟩, hS.F ht⟩) hS.2.2 d_LG_init_57
