/-! TwoSlotsModel(..), its making. -/
set_option maxHeartbeats 4000000 in
set_option maxRecDepth 100000 in
theorem c_MO_init (l : Launch) (D : va_G) (tC : Nat → ClassId) (ad : Nat → Nat) (x : mm_S) (h0 sz : Nat) (v n : Int32) (k : Int64) (hok : ok_MOi v n k (mm_mrg x (z0 k))) : Met l y_MO_init (Cond.code y_MO_init b_MO_init 11 none :: TB) { frames := 2, cells := 6, slots := 4311, locals := 54 } (ci_P D tC [.ref h0, .int v, .int n, .long k] (mm_W tC ad LC x ++ [(h0, .inr (5, [.long 0, .null, .int 0, .int 0, .int 0, .int 0, .int 0, .null, .int 0, .null, .int 0, .int 0, .null, .int 0, .int 0, .int 0, .int 0, .null, .null]))]) sz) (va_Qv (fun _ : Nat → Nat => True) (fun u t => (∀ j, j < 11 → u j = ad j) ∧ u 11 = h0 ∧ va_P D CL (mm_W tC u LL (e_MOi v n k (mm_mrg x (z0 k)))) t.heap ∧ mm_Da (va_A (mm_W tC ad LC x ++ [(h0, .inr (5, [.long 0, .null, .int 0, .int 0, .int 0, .int 0, .int 0, .null, .int 0, .null, .int 0, .int 0, .null, .int 0, .int 0, .int 0, .int 0, .null, .null]))]) sz) u 18) (va_A (mm_W tC ad LC x ++ [(h0, .inr (5, [.long 0, .null, .int 0, .int 0, .int 0, .int 0, .int 0, .null, .int 0, .null, .int 0, .int 0, .null, .int 0, .int 0, .int 0, .int 0, .null, .null]))]) sz)) 6 4311 (va_A (mm_W tC ad LC x ++ [(h0, .inr (5, [.long 0, .null, .int 0, .int 0, .int 0, .int 0, .int 0, .null, .int 0, .null, .int 0, .int 0, .null, .int 0, .int 0, .int 0, .int 0, .null, .null]))]) sz) := by
  refine mm_ofW (cc := b_MO_init) (maxL := 11) (ret := none) (by decide +kernel) rfl ?_
  intro p e s m args below meth c s₁ B hml hv
  obtain ⟨rfl, hsz, hP, hK, hD0, hNW⟩ := hv
  have hx := B.exec
  have hb := B.bytes
  have hr := B.returns
  have hts0 := atoms_spec (ws := Cond.code y_MO_init b_MO_init 11 none :: TB) B.pre
  have hts : ∀ w ∈ TB, w.before ([.ref h0, .int v, .int n, .long k] : List Value).toArray s = true := fun w hw => hts0 w (List.mem_cons_of_mem _ hw)
  have hown : s.vm.findClass "TwoSlotsModel" = some m.cls := findClass_of_methodNamed B.named
  have hlocks := B.notSynchronized
  have hin : meth.name = "<init>" := (name_of_methodNamed B.named B.method).1
  subst hsz
  have hD := hD0.self (sz := s.heap.size)
  generalize hAe : va_A (mm_W tC ad LC x ++ [(h0, .inr (5, [.long 0, .null, .int 0, .int 0, .int 0, .int 0, .int 0, .null, .int 0, .null, .int 0, .int 0, .null, .int 0, .int 0, .int 0, .int 0, .null, .null]))]) s.heap.size = A at hD ⊢
  have hA : ∀ q : Nat, s.heap.size ≤ q → A q := fun q h => by rw [← hAe]; exact Or.inr h
  have hS : va_S A s.heap s.heap [] := va_S.rf
  have hl := lv_entry ([.ref h0, .int v, .int n, .long k]) (n := 11) (Nat.le_of_ble_eq_true rfl)
  rw [lg_entry_eq]
  generalize (lg_sl ([.ref h0, .int v, .int n, .long k]) ++ List.replicate (11 - (lg_sl ([.ref h0, .int v, .int n, .long k])).length) Slot.unset).toArray = ls at hl ⊢
  have hl : lv_has ls 11 [(0, .ref h0), (1, .int v), (2, .int n), (3, .long k)] := hl
  refine lv_aload_n hx hb d_MO_init_0 rfl (lv_at hl 0 rfl) ?_
  refine W.objInit hx hb hown (hts _ tl_MO_obj) (hts _ tv_obj) (hts _ tc_obj) rfl (by rw [hml]; exact hl.1) rfl d_MO_init_1 (Nat.le_of_ble_eq_true rfl) (Nat.le_of_ble_eq_true rfl) ?_
  refine W.eq (g2 := F0 m 4 ls []) rfl ?_
  refine lv_aload_n hx hb d_MO_init_4 rfl (lv_at hl 0 rfl) ?_
  refine lv_sipush (v := 4096) hx hb d_MO_init_5 (by decide) ?_
  refine va_newL (ty := .int) (atype := .int) hx hb (hts _ ta_int) rfl (fun C h => by cases h) hK (t0 := 1) (cT := tC 1) rfl hP hD hS hA (n := 4096) (N' := 4096) (a0 := (4096, .inl (fun _ => 0))) (nz_int 4096) (by decide) (by decide) (by decide) (Nat.le_of_ble_eq_true rfl) (Nat.le_of_ble_eq_true rfl) d_MO_init_8 (fun q1 H hP hD hS => ?_)
  have hP : va_P D CL (mm_W tC ad LC x ++ (h0, .inr (5, [.long 0, .null, .int 0, .int 0, .int 0, .int 0, .int 0, .null, .int 0, .null, .int 0, .int 0, .null, .int 0, .int 0, .int 0, .int 0, .null, .null])) :: [(q1, .inl (tC 1, 4096, .inl (fun _ => 0)))]) H := hP
  have hD : va_D A (mm_W tC ad LC x ++ (h0, .inr (5, [.long 0, .null, .int 0, .int 0, .int 0, .int 0, .int 0, .null, .int 0, .null, .int 0, .int 0, .null, .int 0, .int 0, .int 0, .int 0, .null, .null])) :: [(q1, .inl (tC 1, 4096, .inl (fun _ => 0)))]) := hD
  refine W.widen (k := 1) (n := 4096) (Nat.le_refl _) (Nat.le_refl _) ?_
  have g1 : CL[5]? = some ("TwoSlotsModel", F_MO, 19) := rfl
  have g2 : (Cond.fieldLink "TwoSlotsModel" 7 "TwoSlotsModel" (F_MO 1).2.1 (F_MO 1).2.2.1).before ([.ref h0, .int v, .int n, .long k] : List Value).toArray s = true := hts _ tf_MO_7
  have g3 : parseFieldDescriptor (F_MO 1).2.2.1 = some (.array .int) := by decide +kernel
  have g4 : (F_MO 1).2.2.2 = true := rfl
  refine va_putFL (D := D) (ci := 5) (v := .ref q1) (ty := .array .int) (C := "TwoSlotsModel") (T := F_MO) (N := 19) (index := 7) (ref := "TwoSlotsModel") hx hb hts ww_MO t_MO tt_MO nn_MO hown hK hP hD hS g1 1 (by decide) g2 (fun _ h9 => h9) g4 hin rfl g3 rfl rfl (Nat.le_of_ble_eq_true rfl) d_MO_init_10 (fun H locs hP hD hS => ?_)
  have hP : va_P D CL (mm_W tC ad LC x ++ (h0, .inr (5, [.long 0, .ref q1, .int 0, .int 0, .int 0, .int 0, .int 0, .null, .int 0, .null, .int 0, .int 0, .null, .int 0, .int 0, .int 0, .int 0, .null, .null])) :: [(q1, .inl (tC 1, 4096, .inl (fun _ => 0)))]) H := hP
  have hD : va_D A (mm_W tC ad LC x ++ (h0, .inr (5, [.long 0, .ref q1, .int 0, .int 0, .int 0, .int 0, .int 0, .null, .int 0, .null, .int 0, .int 0, .null, .int 0, .int 0, .int 0, .int 0, .null, .null])) :: [(q1, .inl (tC 1, 4096, .inl (fun _ => 0)))]) := hD
  refine lv_aload_n hx hb d_MO_init_13 rfl (lv_at hl 0 rfl) ?_
  refine lv_iconst (v := -1) hx hb d_MO_init_14 (by decide) ?_
  have g1 : CL[5]? = some ("TwoSlotsModel", F_MO, 19) := rfl
  have g2 : (Cond.fieldLink "TwoSlotsModel" 13 "TwoSlotsModel" (F_MO 3).2.1 (F_MO 3).2.2.1).before ([.ref h0, .int v, .int n, .long k] : List Value).toArray s = true := hts _ tf_MO_13
  have g3 : parseFieldDescriptor (F_MO 3).2.2.1 = some (.int) := by decide +kernel
  have g4 : (F_MO 3).2.2.2 = false := rfl
  refine va_putL (D := D) (ci := 5) (v := .int (-1)) (ty := .int) (C := "TwoSlotsModel") (T := F_MO) (N := 19) (index := 13) (ref := "TwoSlotsModel") hx hb hts ww_MO t_MO tt_MO nn_MO hown hK hP hD hS g1 3 (by decide) g2 (fun _ h9 => h9) g4 g3 rfl rfl (Nat.le_of_ble_eq_true rfl) d_MO_init_15 (fun H locs hP hD hS => ?_)
  have hP : va_P D CL (mm_W tC ad LC x ++ (h0, .inr (5, [.long 0, .ref q1, .int 0, .int (-1), .int 0, .int 0, .int 0, .null, .int 0, .null, .int 0, .int 0, .null, .int 0, .int 0, .int 0, .int 0, .null, .null])) :: [(q1, .inl (tC 1, 4096, .inl (fun _ => 0)))]) H := hP
  have hD : va_D A (mm_W tC ad LC x ++ (h0, .inr (5, [.long 0, .ref q1, .int 0, .int (-1), .int 0, .int 0, .int 0, .null, .int 0, .null, .int 0, .int 0, .null, .int 0, .int 0, .int 0, .int 0, .null, .null])) :: [(q1, .inl (tC 1, 4096, .inl (fun _ => 0)))]) := hD
  refine lv_aload_n hx hb d_MO_init_18 rfl (lv_at hl 0 rfl) ?_
  refine lv_iconst (v := -1) hx hb d_MO_init_19 (by decide) ?_
  have g1 : CL[5]? = some ("TwoSlotsModel", F_MO, 19) := rfl
  have g2 : (Cond.fieldLink "TwoSlotsModel" 17 "TwoSlotsModel" (F_MO 5).2.1 (F_MO 5).2.2.1).before ([.ref h0, .int v, .int n, .long k] : List Value).toArray s = true := hts _ tf_MO_17
  have g3 : parseFieldDescriptor (F_MO 5).2.2.1 = some (.int) := by decide +kernel
  have g4 : (F_MO 5).2.2.2 = false := rfl
  refine va_putL (D := D) (ci := 5) (v := .int (-1)) (ty := .int) (C := "TwoSlotsModel") (T := F_MO) (N := 19) (index := 17) (ref := "TwoSlotsModel") hx hb hts ww_MO t_MO tt_MO nn_MO hown hK hP hD hS g1 5 (by decide) g2 (fun _ h9 => h9) g4 g3 rfl rfl (Nat.le_of_ble_eq_true rfl) d_MO_init_20 (fun H locs hP hD hS => ?_)
  have hP : va_P D CL (mm_W tC ad LC x ++ (h0, .inr (5, [.long 0, .ref q1, .int 0, .int (-1), .int 0, .int (-1), .int 0, .null, .int 0, .null, .int 0, .int 0, .null, .int 0, .int 0, .int 0, .int 0, .null, .null])) :: [(q1, .inl (tC 1, 4096, .inl (fun _ => 0)))]) H := hP
  have hD : va_D A (mm_W tC ad LC x ++ (h0, .inr (5, [.long 0, .ref q1, .int 0, .int (-1), .int 0, .int (-1), .int 0, .null, .int 0, .null, .int 0, .int 0, .null, .int 0, .int 0, .int 0, .int 0, .null, .null])) :: [(q1, .inl (tC 1, 4096, .inl (fun _ => 0)))]) := hD
  refine lv_aload_n hx hb d_MO_init_23 rfl (lv_at hl 0 rfl) ?_
  refine lv_bipush (v := 64) hx hb d_MO_init_24 (by decide) ?_
  refine va_newL (ty := .int) (atype := .int) hx hb (hts _ ta_int) rfl (fun C h => by cases h) hK (t0 := 1) (cT := tC 1) rfl hP hD hS hA (n := 64) (N' := 64) (a0 := (64, .inl (fun _ => 0))) (nz_int 64) (by decide) (by decide) (by decide) (Nat.le_of_ble_eq_true rfl) (Nat.le_of_ble_eq_true rfl) d_MO_init_26 (fun q2 H hP hD hS => ?_)
  have hP : va_P D CL (mm_W tC ad LC x ++ (h0, .inr (5, [.long 0, .ref q1, .int 0, .int (-1), .int 0, .int (-1), .int 0, .null, .int 0, .null, .int 0, .int 0, .null, .int 0, .int 0, .int 0, .int 0, .null, .null])) :: [(q1, .inl (tC 1, 4096, .inl (fun _ => 0))), (q2, .inl (tC 1, 64, .inl (fun _ => 0)))]) H := hP
  have hD : va_D A (mm_W tC ad LC x ++ (h0, .inr (5, [.long 0, .ref q1, .int 0, .int (-1), .int 0, .int (-1), .int 0, .null, .int 0, .null, .int 0, .int 0, .null, .int 0, .int 0, .int 0, .int 0, .null, .null])) :: [(q1, .inl (tC 1, 4096, .inl (fun _ => 0))), (q2, .inl (tC 1, 64, .inl (fun _ => 0)))]) := hD
  refine W.widen (k := 2) (n := 4160) (Nat.le_refl _) (Nat.le_refl _) ?_
  have g1 : CL[5]? = some ("TwoSlotsModel", F_MO, 19) := rfl
  have g2 : (Cond.fieldLink "TwoSlotsModel" 20 "TwoSlotsModel" (F_MO 7).2.1 (F_MO 7).2.2.1).before ([.ref h0, .int v, .int n, .long k] : List Value).toArray s = true := hts _ tf_MO_20
  have g3 : parseFieldDescriptor (F_MO 7).2.2.1 = some (.array .int) := by decide +kernel
  have g4 : (F_MO 7).2.2.2 = true := rfl
  refine va_putFL (D := D) (ci := 5) (v := .ref q2) (ty := .array .int) (C := "TwoSlotsModel") (T := F_MO) (N := 19) (index := 20) (ref := "TwoSlotsModel") hx hb hts ww_MO t_MO tt_MO nn_MO hown hK hP hD hS g1 7 (by decide) g2 (fun _ h9 => h9) g4 hin rfl g3 rfl rfl (Nat.le_of_ble_eq_true rfl) d_MO_init_28 (fun H locs hP hD hS => ?_)
  have hP : va_P D CL (mm_W tC ad LC x ++ (h0, .inr (5, [.long 0, .ref q1, .int 0, .int (-1), .int 0, .int (-1), .int 0, .ref q2, .int 0, .null, .int 0, .int 0, .null, .int 0, .int 0, .int 0, .int 0, .null, .null])) :: [(q1, .inl (tC 1, 4096, .inl (fun _ => 0))), (q2, .inl (tC 1, 64, .inl (fun _ => 0)))]) H := hP
  have hD : va_D A (mm_W tC ad LC x ++ (h0, .inr (5, [.long 0, .ref q1, .int 0, .int (-1), .int 0, .int (-1), .int 0, .ref q2, .int 0, .null, .int 0, .int 0, .null, .int 0, .int 0, .int 0, .int 0, .null, .null])) :: [(q1, .inl (tC 1, 4096, .inl (fun _ => 0))), (q2, .inl (tC 1, 64, .inl (fun _ => 0)))]) := hD
  refine lv_aload_n hx hb d_MO_init_31 rfl (lv_at hl 0 rfl) ?_
  refine lv_bipush (v := 64) hx hb d_MO_init_32 (by decide) ?_
  refine va_newL (ty := .int) (atype := .int) hx hb (hts _ ta_int) rfl (fun C h => by cases h) hK (t0 := 1) (cT := tC 1) rfl hP hD hS hA (n := 64) (N' := 64) (a0 := (64, .inl (fun _ => 0))) (nz_int 64) (by decide) (by decide) (by decide) (Nat.le_of_ble_eq_true rfl) (Nat.le_of_ble_eq_true rfl) d_MO_init_34 (fun q3 H hP hD hS => ?_)
  have hP : va_P D CL (mm_W tC ad LC x ++ (h0, .inr (5, [.long 0, .ref q1, .int 0, .int (-1), .int 0, .int (-1), .int 0, .ref q2, .int 0, .null, .int 0, .int 0, .null, .int 0, .int 0, .int 0, .int 0, .null, .null])) :: [(q1, .inl (tC 1, 4096, .inl (fun _ => 0))), (q2, .inl (tC 1, 64, .inl (fun _ => 0))), (q3, .inl (tC 1, 64, .inl (fun _ => 0)))]) H := hP
  have hD : va_D A (mm_W tC ad LC x ++ (h0, .inr (5, [.long 0, .ref q1, .int 0, .int (-1), .int 0, .int (-1), .int 0, .ref q2, .int 0, .null, .int 0, .int 0, .null, .int 0, .int 0, .int 0, .int 0, .null, .null])) :: [(q1, .inl (tC 1, 4096, .inl (fun _ => 0))), (q2, .inl (tC 1, 64, .inl (fun _ => 0))), (q3, .inl (tC 1, 64, .inl (fun _ => 0)))]) := hD
  refine W.widen (k := 3) (n := 4224) (Nat.le_refl _) (Nat.le_refl _) ?_
  have g1 : CL[5]? = some ("TwoSlotsModel", F_MO, 19) := rfl
  have g2 : (Cond.fieldLink "TwoSlotsModel" 23 "TwoSlotsModel" (F_MO 9).2.1 (F_MO 9).2.2.1).before ([.ref h0, .int v, .int n, .long k] : List Value).toArray s = true := hts _ tf_MO_23
  have g3 : parseFieldDescriptor (F_MO 9).2.2.1 = some (.array .int) := by decide +kernel
  have g4 : (F_MO 9).2.2.2 = true := rfl
  refine va_putFL (D := D) (ci := 5) (v := .ref q3) (ty := .array .int) (C := "TwoSlotsModel") (T := F_MO) (N := 19) (index := 23) (ref := "TwoSlotsModel") hx hb hts ww_MO t_MO tt_MO nn_MO hown hK hP hD hS g1 9 (by decide) g2 (fun _ h9 => h9) g4 hin rfl g3 rfl rfl (Nat.le_of_ble_eq_true rfl) d_MO_init_36 (fun H locs hP hD hS => ?_)
  have hP : va_P D CL (mm_W tC ad LC x ++ (h0, .inr (5, [.long 0, .ref q1, .int 0, .int (-1), .int 0, .int (-1), .int 0, .ref q2, .int 0, .ref q3, .int 0, .int 0, .null, .int 0, .int 0, .int 0, .int 0, .null, .null])) :: [(q1, .inl (tC 1, 4096, .inl (fun _ => 0))), (q2, .inl (tC 1, 64, .inl (fun _ => 0))), (q3, .inl (tC 1, 64, .inl (fun _ => 0)))]) H := hP
  have hD : va_D A (mm_W tC ad LC x ++ (h0, .inr (5, [.long 0, .ref q1, .int 0, .int (-1), .int 0, .int (-1), .int 0, .ref q2, .int 0, .ref q3, .int 0, .int 0, .null, .int 0, .int 0, .int 0, .int 0, .null, .null])) :: [(q1, .inl (tC 1, 4096, .inl (fun _ => 0))), (q2, .inl (tC 1, 64, .inl (fun _ => 0))), (q3, .inl (tC 1, 64, .inl (fun _ => 0)))]) := hD
  refine lv_aload_n hx hb d_MO_init_39 rfl (lv_at hl 0 rfl) ?_
  refine lv_iconst (v := -1) hx hb d_MO_init_40 (by decide) ?_
  have g1 : CL[5]? = some ("TwoSlotsModel", F_MO, 19) := rfl
  have g2 : (Cond.fieldLink "TwoSlotsModel" 26 "TwoSlotsModel" (F_MO 10).2.1 (F_MO 10).2.2.1).before ([.ref h0, .int v, .int n, .long k] : List Value).toArray s = true := hts _ tf_MO_26
  have g3 : parseFieldDescriptor (F_MO 10).2.2.1 = some (.int) := by decide +kernel
  have g4 : (F_MO 10).2.2.2 = false := rfl
  refine va_putL (D := D) (ci := 5) (v := .int (-1)) (ty := .int) (C := "TwoSlotsModel") (T := F_MO) (N := 19) (index := 26) (ref := "TwoSlotsModel") hx hb hts ww_MO t_MO tt_MO nn_MO hown hK hP hD hS g1 10 (by decide) g2 (fun _ h9 => h9) g4 g3 rfl rfl (Nat.le_of_ble_eq_true rfl) d_MO_init_41 (fun H locs hP hD hS => ?_)
  have hP : va_P D CL (mm_W tC ad LC x ++ (h0, .inr (5, [.long 0, .ref q1, .int 0, .int (-1), .int 0, .int (-1), .int 0, .ref q2, .int 0, .ref q3, .int (-1), .int 0, .null, .int 0, .int 0, .int 0, .int 0, .null, .null])) :: [(q1, .inl (tC 1, 4096, .inl (fun _ => 0))), (q2, .inl (tC 1, 64, .inl (fun _ => 0))), (q3, .inl (tC 1, 64, .inl (fun _ => 0)))]) H := hP
  have hD : va_D A (mm_W tC ad LC x ++ (h0, .inr (5, [.long 0, .ref q1, .int 0, .int (-1), .int 0, .int (-1), .int 0, .ref q2, .int 0, .ref q3, .int (-1), .int 0, .null, .int 0, .int 0, .int 0, .int 0, .null, .null])) :: [(q1, .inl (tC 1, 4096, .inl (fun _ => 0))), (q2, .inl (tC 1, 64, .inl (fun _ => 0))), (q3, .inl (tC 1, 64, .inl (fun _ => 0)))]) := hD
  refine lv_aload_n hx hb d_MO_init_44 rfl (lv_at hl 0 rfl) ?_
  refine lv_bipush (v := 7) hx hb d_MO_init_45 (by decide) ?_
  refine va_newL (ty := .int) (atype := .int) hx hb (hts _ ta_int) rfl (fun C h => by cases h) hK (t0 := 1) (cT := tC 1) rfl hP hD hS hA (n := 7) (N' := 7) (a0 := (7, .inl (fun _ => 0))) (nz_int 7) (by decide) (by decide) (by decide) (Nat.le_of_ble_eq_true rfl) (Nat.le_of_ble_eq_true rfl) d_MO_init_47 (fun q4 H hP hD hS => ?_)
  have hP : va_P D CL (mm_W tC ad LC x ++ (h0, .inr (5, [.long 0, .ref q1, .int 0, .int (-1), .int 0, .int (-1), .int 0, .ref q2, .int 0, .ref q3, .int (-1), .int 0, .null, .int 0, .int 0, .int 0, .int 0, .null, .null])) :: [(q1, .inl (tC 1, 4096, .inl (fun _ => 0))), (q2, .inl (tC 1, 64, .inl (fun _ => 0))), (q3, .inl (tC 1, 64, .inl (fun _ => 0))), (q4, .inl (tC 1, 7, .inl (fun _ => 0)))]) H := hP
  have hD : va_D A (mm_W tC ad LC x ++ (h0, .inr (5, [.long 0, .ref q1, .int 0, .int (-1), .int 0, .int (-1), .int 0, .ref q2, .int 0, .ref q3, .int (-1), .int 0, .null, .int 0, .int 0, .int 0, .int 0, .null, .null])) :: [(q1, .inl (tC 1, 4096, .inl (fun _ => 0))), (q2, .inl (tC 1, 64, .inl (fun _ => 0))), (q3, .inl (tC 1, 64, .inl (fun _ => 0))), (q4, .inl (tC 1, 7, .inl (fun _ => 0)))]) := hD
  refine W.widen (k := 4) (n := 4231) (Nat.le_refl _) (Nat.le_refl _) ?_
  have g1 : CL[5]? = some ("TwoSlotsModel", F_MO, 19) := rfl
  have g2 : (Cond.fieldLink "TwoSlotsModel" 29 "TwoSlotsModel" (F_MO 12).2.1 (F_MO 12).2.2.1).before ([.ref h0, .int v, .int n, .long k] : List Value).toArray s = true := hts _ tf_MO_29
  have g3 : parseFieldDescriptor (F_MO 12).2.2.1 = some (.array .int) := by decide +kernel
  have g4 : (F_MO 12).2.2.2 = true := rfl
  refine va_putFL (D := D) (ci := 5) (v := .ref q4) (ty := .array .int) (C := "TwoSlotsModel") (T := F_MO) (N := 19) (index := 29) (ref := "TwoSlotsModel") hx hb hts ww_MO t_MO tt_MO nn_MO hown hK hP hD hS g1 12 (by decide) g2 (fun _ h9 => h9) g4 hin rfl g3 rfl rfl (Nat.le_of_ble_eq_true rfl) d_MO_init_49 (fun H locs hP hD hS => ?_)
  have hP : va_P D CL (mm_W tC ad LC x ++ (h0, .inr (5, [.long 0, .ref q1, .int 0, .int (-1), .int 0, .int (-1), .int 0, .ref q2, .int 0, .ref q3, .int (-1), .int 0, .ref q4, .int 0, .int 0, .int 0, .int 0, .null, .null])) :: [(q1, .inl (tC 1, 4096, .inl (fun _ => 0))), (q2, .inl (tC 1, 64, .inl (fun _ => 0))), (q3, .inl (tC 1, 64, .inl (fun _ => 0))), (q4, .inl (tC 1, 7, .inl (fun _ => 0)))]) H := hP
  have hD : va_D A (mm_W tC ad LC x ++ (h0, .inr (5, [.long 0, .ref q1, .int 0, .int (-1), .int 0, .int (-1), .int 0, .ref q2, .int 0, .ref q3, .int (-1), .int 0, .ref q4, .int 0, .int 0, .int 0, .int 0, .null, .null])) :: [(q1, .inl (tC 1, 4096, .inl (fun _ => 0))), (q2, .inl (tC 1, 64, .inl (fun _ => 0))), (q3, .inl (tC 1, 64, .inl (fun _ => 0))), (q4, .inl (tC 1, 7, .inl (fun _ => 0)))]) := hD
  refine lv_aload_n hx hb d_MO_init_52 rfl (lv_at hl 0 rfl) ?_
  refine lv_bipush (v := 64) hx hb d_MO_init_53 (by decide) ?_
  refine va_newL (ty := .int) (atype := .int) hx hb (hts _ ta_int) rfl (fun C h => by cases h) hK (t0 := 1) (cT := tC 1) rfl hP hD hS hA (n := 64) (N' := 64) (a0 := (64, .inl (fun _ => 0))) (nz_int 64) (by decide) (by decide) (by decide) (Nat.le_of_ble_eq_true rfl) (Nat.le_of_ble_eq_true rfl) d_MO_init_55 (fun q5 H hP hD hS => ?_)
  have hP : va_P D CL (mm_W tC ad LC x ++ (h0, .inr (5, [.long 0, .ref q1, .int 0, .int (-1), .int 0, .int (-1), .int 0, .ref q2, .int 0, .ref q3, .int (-1), .int 0, .ref q4, .int 0, .int 0, .int 0, .int 0, .null, .null])) :: [(q1, .inl (tC 1, 4096, .inl (fun _ => 0))), (q2, .inl (tC 1, 64, .inl (fun _ => 0))), (q3, .inl (tC 1, 64, .inl (fun _ => 0))), (q4, .inl (tC 1, 7, .inl (fun _ => 0))), (q5, .inl (tC 1, 64, .inl (fun _ => 0)))]) H := hP
  have hD : va_D A (mm_W tC ad LC x ++ (h0, .inr (5, [.long 0, .ref q1, .int 0, .int (-1), .int 0, .int (-1), .int 0, .ref q2, .int 0, .ref q3, .int (-1), .int 0, .ref q4, .int 0, .int 0, .int 0, .int 0, .null, .null])) :: [(q1, .inl (tC 1, 4096, .inl (fun _ => 0))), (q2, .inl (tC 1, 64, .inl (fun _ => 0))), (q3, .inl (tC 1, 64, .inl (fun _ => 0))), (q4, .inl (tC 1, 7, .inl (fun _ => 0))), (q5, .inl (tC 1, 64, .inl (fun _ => 0)))]) := hD
  refine W.widen (k := 5) (n := 4295) (Nat.le_refl _) (Nat.le_refl _) ?_
  have g1 : CL[5]? = some ("TwoSlotsModel", F_MO, 19) := rfl
  have g2 : (Cond.fieldLink "TwoSlotsModel" 32 "TwoSlotsModel" (F_MO 17).2.1 (F_MO 17).2.2.1).before ([.ref h0, .int v, .int n, .long k] : List Value).toArray s = true := hts _ tf_MO_32
  have g3 : parseFieldDescriptor (F_MO 17).2.2.1 = some (.array .int) := by decide +kernel
  have g4 : (F_MO 17).2.2.2 = true := rfl
  refine va_putFL (D := D) (ci := 5) (v := .ref q5) (ty := .array .int) (C := "TwoSlotsModel") (T := F_MO) (N := 19) (index := 32) (ref := "TwoSlotsModel") hx hb hts ww_MO t_MO tt_MO nn_MO hown hK hP hD hS g1 17 (by decide) g2 (fun _ h9 => h9) g4 hin rfl g3 rfl rfl (Nat.le_of_ble_eq_true rfl) d_MO_init_57 (fun H locs hP hD hS => ?_)
  have hP : va_P D CL (mm_W tC ad LC x ++ (h0, .inr (5, [.long 0, .ref q1, .int 0, .int (-1), .int 0, .int (-1), .int 0, .ref q2, .int 0, .ref q3, .int (-1), .int 0, .ref q4, .int 0, .int 0, .int 0, .int 0, .ref q5, .null])) :: [(q1, .inl (tC 1, 4096, .inl (fun _ => 0))), (q2, .inl (tC 1, 64, .inl (fun _ => 0))), (q3, .inl (tC 1, 64, .inl (fun _ => 0))), (q4, .inl (tC 1, 7, .inl (fun _ => 0))), (q5, .inl (tC 1, 64, .inl (fun _ => 0)))]) H := hP
  have hD : va_D A (mm_W tC ad LC x ++ (h0, .inr (5, [.long 0, .ref q1, .int 0, .int (-1), .int 0, .int (-1), .int 0, .ref q2, .int 0, .ref q3, .int (-1), .int 0, .ref q4, .int 0, .int 0, .int 0, .int 0, .ref q5, .null])) :: [(q1, .inl (tC 1, 4096, .inl (fun _ => 0))), (q2, .inl (tC 1, 64, .inl (fun _ => 0))), (q3, .inl (tC 1, 64, .inl (fun _ => 0))), (q4, .inl (tC 1, 7, .inl (fun _ => 0))), (q5, .inl (tC 1, 64, .inl (fun _ => 0)))]) := hD
  refine lv_aload_n hx hb d_MO_init_60 rfl (lv_at hl 0 rfl) ?_
  refine lv_bipush (v := 16) hx hb d_MO_init_61 (by decide) ?_
  refine va_newL (ty := .int) (atype := .int) hx hb (hts _ ta_int) rfl (fun C h => by cases h) hK (t0 := 1) (cT := tC 1) rfl hP hD hS hA (n := 16) (N' := 16) (a0 := (16, .inl (fun _ => 0))) (nz_int 16) (by decide) (by decide) (by decide) (Nat.le_of_ble_eq_true rfl) (Nat.le_of_ble_eq_true rfl) d_MO_init_63 (fun q6 H hP hD hS => ?_)
  have hP : va_P D CL (mm_W tC ad LC x ++ (h0, .inr (5, [.long 0, .ref q1, .int 0, .int (-1), .int 0, .int (-1), .int 0, .ref q2, .int 0, .ref q3, .int (-1), .int 0, .ref q4, .int 0, .int 0, .int 0, .int 0, .ref q5, .null])) :: [(q1, .inl (tC 1, 4096, .inl (fun _ => 0))), (q2, .inl (tC 1, 64, .inl (fun _ => 0))), (q3, .inl (tC 1, 64, .inl (fun _ => 0))), (q4, .inl (tC 1, 7, .inl (fun _ => 0))), (q5, .inl (tC 1, 64, .inl (fun _ => 0))), (q6, .inl (tC 1, 16, .inl (fun _ => 0)))]) H := hP
  have hD : va_D A (mm_W tC ad LC x ++ (h0, .inr (5, [.long 0, .ref q1, .int 0, .int (-1), .int 0, .int (-1), .int 0, .ref q2, .int 0, .ref q3, .int (-1), .int 0, .ref q4, .int 0, .int 0, .int 0, .int 0, .ref q5, .null])) :: [(q1, .inl (tC 1, 4096, .inl (fun _ => 0))), (q2, .inl (tC 1, 64, .inl (fun _ => 0))), (q3, .inl (tC 1, 64, .inl (fun _ => 0))), (q4, .inl (tC 1, 7, .inl (fun _ => 0))), (q5, .inl (tC 1, 64, .inl (fun _ => 0))), (q6, .inl (tC 1, 16, .inl (fun _ => 0)))]) := hD
  refine W.widen (k := 6) (n := 4311) (Nat.le_refl _) (Nat.le_refl _) ?_
  have g1 : CL[5]? = some ("TwoSlotsModel", F_MO, 19) := rfl
  have g2 : (Cond.fieldLink "TwoSlotsModel" 35 "TwoSlotsModel" (F_MO 18).2.1 (F_MO 18).2.2.1).before ([.ref h0, .int v, .int n, .long k] : List Value).toArray s = true := hts _ tf_MO_35
  have g3 : parseFieldDescriptor (F_MO 18).2.2.1 = some (.array .int) := by decide +kernel
  have g4 : (F_MO 18).2.2.2 = true := rfl
  refine va_putFL (D := D) (ci := 5) (v := .ref q6) (ty := .array .int) (C := "TwoSlotsModel") (T := F_MO) (N := 19) (index := 35) (ref := "TwoSlotsModel") hx hb hts ww_MO t_MO tt_MO nn_MO hown hK hP hD hS g1 18 (by decide) g2 (fun _ h9 => h9) g4 hin rfl g3 rfl rfl (Nat.le_of_ble_eq_true rfl) d_MO_init_65 (fun H locs hP hD hS => ?_)
  have hP : va_P D CL (mm_W tC ad LC x ++ (h0, .inr (5, [.long 0, .ref q1, .int 0, .int (-1), .int 0, .int (-1), .int 0, .ref q2, .int 0, .ref q3, .int (-1), .int 0, .ref q4, .int 0, .int 0, .int 0, .int 0, .ref q5, .ref q6])) :: [(q1, .inl (tC 1, 4096, .inl (fun _ => 0))), (q2, .inl (tC 1, 64, .inl (fun _ => 0))), (q3, .inl (tC 1, 64, .inl (fun _ => 0))), (q4, .inl (tC 1, 7, .inl (fun _ => 0))), (q5, .inl (tC 1, 64, .inl (fun _ => 0))), (q6, .inl (tC 1, 16, .inl (fun _ => 0)))]) H := hP
  have hD : va_D A (mm_W tC ad LC x ++ (h0, .inr (5, [.long 0, .ref q1, .int 0, .int (-1), .int 0, .int (-1), .int 0, .ref q2, .int 0, .ref q3, .int (-1), .int 0, .ref q4, .int 0, .int 0, .int 0, .int 0, .ref q5, .ref q6])) :: [(q1, .inl (tC 1, 4096, .inl (fun _ => 0))), (q2, .inl (tC 1, 64, .inl (fun _ => 0))), (q3, .inl (tC 1, 64, .inl (fun _ => 0))), (q4, .inl (tC 1, 7, .inl (fun _ => 0))), (q5, .inl (tC 1, 64, .inl (fun _ => 0))), (q6, .inl (tC 1, 16, .inl (fun _ => 0)))]) := hD
  refine lv_aload_n hx hb d_MO_init_68 rfl (lv_at hl 0 rfl) ?_
  refine lv_lload_n hx hb d_MO_init_69 rfl (lv_at hl 3 rfl) ?_
  have g1 : CL[5]? = some ("TwoSlotsModel", F_MO, 19) := rfl
  have g2 : (Cond.fieldLink "TwoSlotsModel" 38 "TwoSlotsModel" (F_MO 0).2.1 (F_MO 0).2.2.1).before ([.ref h0, .int v, .int n, .long k] : List Value).toArray s = true := hts _ tf_MO_38
  have g3 : parseFieldDescriptor (F_MO 0).2.2.1 = some (.long) := by decide +kernel
  have g4 : (F_MO 0).2.2.2 = true := rfl
  refine va_putFL (D := D) (ci := 5) (v := .long k) (ty := .long) (C := "TwoSlotsModel") (T := F_MO) (N := 19) (index := 38) (ref := "TwoSlotsModel") hx hb hts ww_MO t_MO tt_MO nn_MO hown hK hP hD hS g1 0 (by decide) g2 (fun _ h9 => h9) g4 hin rfl g3 rfl rfl (Nat.le_of_ble_eq_true rfl) d_MO_init_70 (fun H locs hP hD hS => ?_)
  have hP : va_P D CL (mm_W tC ad LC x ++ (h0, .inr (5, [.long k, .ref q1, .int 0, .int (-1), .int 0, .int (-1), .int 0, .ref q2, .int 0, .ref q3, .int (-1), .int 0, .ref q4, .int 0, .int 0, .int 0, .int 0, .ref q5, .ref q6])) :: [(q1, .inl (tC 1, 4096, .inl (fun _ => 0))), (q2, .inl (tC 1, 64, .inl (fun _ => 0))), (q3, .inl (tC 1, 64, .inl (fun _ => 0))), (q4, .inl (tC 1, 7, .inl (fun _ => 0))), (q5, .inl (tC 1, 64, .inl (fun _ => 0))), (q6, .inl (tC 1, 16, .inl (fun _ => 0)))]) H := hP
  have hD : va_D A (mm_W tC ad LC x ++ (h0, .inr (5, [.long k, .ref q1, .int 0, .int (-1), .int 0, .int (-1), .int 0, .ref q2, .int 0, .ref q3, .int (-1), .int 0, .ref q4, .int 0, .int 0, .int 0, .int 0, .ref q5, .ref q6])) :: [(q1, .inl (tC 1, 4096, .inl (fun _ => 0))), (q2, .inl (tC 1, 64, .inl (fun _ => 0))), (q3, .inl (tC 1, 64, .inl (fun _ => 0))), (q4, .inl (tC 1, 7, .inl (fun _ => 0))), (q5, .inl (tC 1, 64, .inl (fun _ => 0))), (q6, .inl (tC 1, 16, .inl (fun _ => 0)))]) := hD
  obtain ⟨ad', had⟩ : ∃ ad' : Nat → Nat, ad' = fun j => if j < 11 then ad j else [h0, q1, q2, q3, q4, q5, q6].getD (j - 11) 0 := ⟨_, rfl⟩
  have hW : mm_W tC ad' LL (mm_mrg x (z0 k)) = (mm_W tC ad LC x ++ [(h0, .inr (5, [.long k, .ref q1, .int 0, .int (-1), .int 0, .int (-1), .int 0, .ref q2, .int 0, .ref q3, .int (-1), .int 0, .ref q4, .int 0, .int 0, .int 0, .int 0, .ref q5, .ref q6])), (q1, .inl (tC 1, 4096, .inl (fun _ => 0))), (q2, .inl (tC 1, 64, .inl (fun _ => 0))), (q3, .inl (tC 1, 64, .inl (fun _ => 0))), (q4, .inl (tC 1, 7, .inl (fun _ => 0))), (q5, .inl (tC 1, 64, .inl (fun _ => 0))), (q6, .inl (tC 1, 16, .inl (fun _ => 0)))]) := had ▸ mo_W tC ad x k h0 q1 q2 q3 q4 q5 q6
  have hP : va_P D CL (mm_W tC ad LC x ++ [(h0, .inr (5, [.long k, .ref q1, .int 0, .int (-1), .int 0, .int (-1), .int 0, .ref q2, .int 0, .ref q3, .int (-1), .int 0, .ref q4, .int 0, .int 0, .int 0, .int 0, .ref q5, .ref q6])), (q1, .inl (tC 1, 4096, .inl (fun _ => 0))), (q2, .inl (tC 1, 64, .inl (fun _ => 0))), (q3, .inl (tC 1, 64, .inl (fun _ => 0))), (q4, .inl (tC 1, 7, .inl (fun _ => 0))), (q5, .inl (tC 1, 64, .inl (fun _ => 0))), (q6, .inl (tC 1, 16, .inl (fun _ => 0)))]) H := hP
  have hD : va_D A (mm_W tC ad LC x ++ [(h0, .inr (5, [.long k, .ref q1, .int 0, .int (-1), .int 0, .int (-1), .int 0, .ref q2, .int 0, .ref q3, .int (-1), .int 0, .ref q4, .int 0, .int 0, .int 0, .int 0, .ref q5, .ref q6])), (q1, .inl (tC 1, 4096, .inl (fun _ => 0))), (q2, .inl (tC 1, 64, .inl (fun _ => 0))), (q3, .inl (tC 1, 64, .inl (fun _ => 0))), (q4, .inl (tC 1, 7, .inl (fun _ => 0))), (q5, .inl (tC 1, 64, .inl (fun _ => 0))), (q6, .inl (tC 1, 16, .inl (fun _ => 0)))]) := hD
  rw [← hW] at hP hD
  have hDa : mm_Da A ad' LL.length := mm_DW hD
  have ha1 : ad' 11 = h0 := by
    rw [had]
    rfl
  have ha0 : ∀ j, j < 11 → ad' j = ad j := fun j hj => by
    rw [had]
    exact if_pos hj
  have hl : lv_has ls 11 (([(0, .ref 11), (1, .int v), (2, .int n), (3, .long k)] : mm_V).map (mm_cq ad')) := by
    show lv_has ls 11 [(0, .ref (ad' 11)), (1, .int v), (2, .int n), (3, .long k)]
    rw [ha1]
    exact hl
  have hs : S_MOi [.ref 11, .int v, .int n, .long k] (mm_mrg x (z0 k)) (fun r x' => r = none ∧ x' = e_MOi v n k (mm_mrg x (z0 k))) := i_MOi hok ⟨rfl, rfl⟩
  exact mm_end (ad := ad') (L := LL) (st0 := []) (lv0 := [(0, .ref 11), (1, .int v), (2, .int n), (3, .long k)]) G_MOi (fun r x' => r = none ∧ x' = e_MOi v n k (mm_mrg x (z0 k))) [76, 125, 135, 206, 253] (Inv_MOi (fun r x' => r = none ∧ x' = e_MOi v n k (mm_mrg x (z0 k))) [.ref 11, .int v, .int n, .long k] (mm_mrg x (z0 k))) hx hb hml hr hlocks hown hts hK hDa LL_u hA hNW ⟨Nat.le_of_ble_eq_true rfl, Nat.le_of_ble_eq_true rfl⟩ rfl ft_MO ci_MO cj_MO (cS_MOi l) (cV_MOi l)
    (fun x' H locs t hP hS hk ht => by
      obtain ⟨-, rfl⟩ := hk
      exact ⟨⟨ad', rfl, trivial, ha0, ha1, by rw [ht]; exact hP, hDa⟩, hS.F ht⟩)
    (fun k1 pc lv x' _ hi => h1_MOi _ _ _ k1 pc lv x' hi) (h0_MOi _ _ _ hs) hP hS hl
