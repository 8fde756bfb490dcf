/-! Flash(): its rest by registers. -/
def LFl : mm_L := [.inr (1, [(0, 1), (1, 10), (1, 11), (1, 12), (1, 13), (1, 14)]), .inl (0, 4096, 1)]
theorem LFl_u : mm_Lu LFl := mm_chk_ok (fun d => if d.2 = 10 then (0, 1) else if d.2 = 11 then (0, 2) else if d.2 = 12 then (0, 3) else if d.2 = 13 then (0, 4) else (0, 5)) (fun _ => 1) (by decide)
theorem LFl_n : mm_Ln LFl := mm_lnc_ok (by decide)
theorem tl_FL_32 : Cond.methodLink "TwoSlots$Flash" 32 y_JA_fill ∈ TB := mem_tb (i := 65) (by decide +kernel) rfl
def e_FLi (x : mm_S) : mm_S :=
  let x1 := mm_setI x 10 (-1 : Int32)
  let x2 := mm_setI x1 11 (0 : Int32)
  let x3 := mm_setI x2 12 (0 : Int32)
  let x4 := mm_setI x3 13 (0 : Int32)
  let x5 := mm_setI x4 14 (0 : Int32)
  let x6 := e_fill 4096 1 (-1 : Int32) x5
  x6
def S_FLi : mm_P := fun as x K => as = [.ref 0] ∧ K none (e_FLi x)
theorem i_FLi {x : mm_S} {K : mm_K} (hk : K none (e_FLi x)) : S_FLi [.ref 0] x K := ⟨rfl, hk⟩
def G_FLi : mm_G := (FT_FL, CI_FL, CJ_FL, mm_tb [(32, 2, (S_fill LFl))], mm_tb [], none)
def rm_FLi : Room := { frames := 1, cells := 0, slots := 0, locals := 23 }
theorem cS_FLi (l : Launch) : ∀ idx q, G_FLi.2.2.2.1 idx = some q → mm_Cst l NW CL TB LFl "TwoSlots$Flash" 4 200 idx q :=
  mm_tb_e (List.forall_mem_cons.mpr ⟨mm_cst_i (c_fill LFl LFl_u LFl_n l) (mm_cb_i rfl rfl (by decide) (by decide) tc_JA_fill ti_JA ⟨by decide, by decide, by decide +kernel⟩ (Or.inl tl_FL_32)) ts_JA_fill, fun _ h => absurd h List.not_mem_nil⟩)
theorem cV_FLi (l : Launch) : ∀ idx q, G_FLi.2.2.2.2.1 idx = some q → mm_Cvt l NW CL TB LFl "TwoSlots$Flash" 4 200 idx q :=
  mm_tb_e (fun _ h => absurd h List.not_mem_nil)
set_option maxHeartbeats 40000000 in
set_option maxRecDepth 10000 in
theorem h0_FLi (as : List Value) (x : mm_S) (K : mm_K) (h : S_FLi as x K) : ∃ n, mm_vc G_FLi LFl 1 none b_FL_init [] (fun pc lv st x' => st = [] ∧ ∃ (k : Nat) (lv' : mm_V), mm_all lv lv' ∧ (fun _ _ _ _ _ _ _ => False) K as x k pc lv' x') K n 13 (lv_args 0 as) [] x := by
  obtain ⟨rfl, hk⟩ := h
  refine ⟨400, ?_⟩
  refine v_aload_n d_FL_init_13 rfl ?_
  refine a_go (by decide) (v_iconst d_FL_init_14 ki_m1 ?_)
  refine a_go (by decide) (v_putI d_FL_init_15 rfl rfl rfl ?_)
  refine a_go (by decide) (v_aload_n d_FL_init_18 rfl ?_)
  refine a_go (by decide) (v_iconst d_FL_init_19 ki_0 ?_)
  refine a_go (by decide) (v_putI d_FL_init_20 rfl rfl rfl ?_)
  refine a_go (by decide) (v_aload_n d_FL_init_23 rfl ?_)
  refine a_go (by decide) (v_iconst d_FL_init_24 ki_0 ?_)
  refine a_go (by decide) (v_putZ d_FL_init_25 rfl rfl rfl (by decide) ?_)
  refine a_go (by decide) (v_aload_n d_FL_init_28 rfl ?_)
  refine a_go (by decide) (v_iconst d_FL_init_29 ki_0 ?_)
  refine a_go (by decide) (v_putI d_FL_init_30 rfl rfl rfl ?_)
  refine a_go (by decide) (v_aload_n d_FL_init_33 rfl ?_)
  refine a_go (by decide) (v_iconst d_FL_init_34 ki_0 ?_)
  refine a_go (by decide) (v_putI d_FL_init_35 rfl rfl rfl ?_)
  refine a_go (by decide) (v_aload_n d_FL_init_38 rfl ?_)
  refine a_go (by decide) (v_getR d_FL_init_39 rfl rfl rfl ?_)
  refine a_go (by decide) (v_iconst d_FL_init_42 ki_m1 ?_)
  refine a_go (by decide) (v_callS d_FL_init_43 rfl (mm_spl 2 rfl) rfl (Nat.le_of_ble_eq_true rfl) ?_)
  refine (i_fill rfl ?_)
  refine a_go (by decide) (v_return d_FL_init_46 rfl ?_)
  exact mm_fiS hk rfl
theorem S_FLi_i {x : mm_S} {K : mm_K} (h : K none (e_FLi x)) : S_FLi [.ref 0] x K := i_FLi h
def FF : Nat → Int32 := wr (fun _ => 0) 0 4096 (fun _ => vp_nar .byte (-1))
def x00 : mm_S := (fun _ => 0, fun _ => 0, fun _ _ => 0)
theorem FL_e : e_FLi x00 = mm_setA (mm_setI (mm_setI (mm_setI (mm_setI (mm_setI x00 10 (-1)) 11 0) 12 0) 13 0) 14 0) 1 FF := by
  unfold e_FLi
  dsimp only
  rw [fl_l (by decide)]
  rfl
theorem FL_w (tC : Nat → ClassId) (h0 q1 : Nat) : mm_W tC (fun k => if k = 0 then h0 else q1) LFl (e_FLi x00) = [(h0, .inr (1, [.ref q1, .int (-1), .int 0, .int 0, .int 0, .int 0])), (q1, .inl (tC 0, 4096, .inl FF))] := by
  rw [FL_e]
  rfl
set_option maxHeartbeats 4000000 in
set_option maxRecDepth 100000 in
theorem c_FL_init (l : Launch) (D : va_G) (tC : Nat → ClassId) (h0 sz : Nat) : Met l y_FL_init (Cond.code y_FL_init b_FL_init 1 none :: TB) { frames := 4, cells := 1, slots := 4096, locals := 200 } (ci_P D tC [.ref h0] [(h0, .inr (1, [.null, .int 0, .int 0, .int 0, .int 0, .int 0]))] sz) (va_Qv (fun _ : Nat => True) (fun u t => va_P D CL [(h0, .inr (1, [.ref u, .int (-1), .int 0, .int 0, .int 0, .int 0])), (u, .inl (tC 0, 4096, .inl FF))] t.heap ∧ va_D (va_A [(h0, .inr (1, [.null, .int 0, .int 0, .int 0, .int 0, .int 0]))] sz) [(h0, .inr (1, [.ref u, .int (-1), .int 0, .int 0, .int 0, .int 0])), (u, .inl (tC 0, 4096, .inl FF))]) (va_A [(h0, .inr (1, [.null, .int 0, .int 0, .int 0, .int 0, .int 0]))] sz)) 1 4096 (va_A [(h0, .inr (1, [.null, .int 0, .int 0, .int 0, .int 0, .int 0]))] sz) := by
  refine mm_ofW (cc := b_FL_init) (maxL := 1) (ret := none) (by decide +kernel) rfl ?_
  intro p e s m args below meth c s₁ B hml hv
  obtain ⟨rfl, hsz, hP, hK, hD0, hNW⟩ := hv
  have hx := B.exec
  have hb := B.bytes
  have hr := B.returns
  have hts0 := atoms_spec (ws := Cond.code y_FL_init b_FL_init 1 none :: TB) B.pre
  have hts : ∀ w ∈ TB, w.before ([.ref h0] : List Value).toArray s = true := fun w hw => hts0 w (List.mem_cons_of_mem _ hw)
  have hown : s.vm.findClass "TwoSlots$Flash" = some m.cls := findClass_of_methodNamed B.named
  have hlocks := B.notSynchronized
  have hin : meth.name = "<init>" := (name_of_methodNamed B.named B.method).1
  subst hsz
  have hD := hD0.self (sz := s.heap.size)
  generalize hAe : va_A [(h0, .inr (1, [.null, .int 0, .int 0, .int 0, .int 0, .int 0]))] s.heap.size = A at hD ⊢
  have hA : ∀ q : Nat, s.heap.size ≤ q → A q := fun q h => by rw [← hAe]; exact Or.inr h
  have hS : va_S A s.heap s.heap [] := va_S.rf
  have hl := lv_entry ([.ref h0]) (n := 1) (Nat.le_of_ble_eq_true rfl)
  rw [lg_entry_eq]
  generalize (lg_sl ([.ref h0]) ++ List.replicate (1 - (lg_sl ([.ref h0])).length) Slot.unset).toArray = ls at hl ⊢
  have hl : lv_has ls 1 [(0, .ref h0)] := hl
  refine lv_aload_n hx hb d_FL_init_0 rfl (lv_at hl 0 rfl) ?_
  refine W.objInit hx hb hown (hts _ tl_FL_obj) (hts _ tv_obj) (hts _ tc_obj) rfl (by rw [hml]; exact hl.1) rfl d_FL_init_1 (Nat.le_of_ble_eq_true rfl) (Nat.le_of_ble_eq_true rfl) ?_
  refine W.eq (g2 := F0 m 4 ls []) rfl ?_
  refine lv_aload_n hx hb d_FL_init_4 rfl (lv_at hl 0 rfl) ?_
  refine lv_sipush (v := 4096) hx hb d_FL_init_5 (by decide) ?_
  refine va_newT (ty := .byte) (atype := .byte) hx hb (hts _ ta_byte) rfl (fun C h => by cases h) hK (t0 := 0) (cT := tC 0) rfl hP hD hS hA (n := 4096) (N' := 4096) (a0 := (4096, .inl (fun _ => 0))) (nz_byte 4096) (by decide) (by decide) (by decide) (Nat.le_of_ble_eq_true rfl) (Nat.le_of_ble_eq_true rfl) d_FL_init_8 (fun q1 H hP hD hS => ?_)
  have hP : va_P D CL [(h0, .inr (1, [.null, .int 0, .int 0, .int 0, .int 0, .int 0])), (q1, .inl (tC 0, 4096, .inl (fun _ => 0)))] H := hP
  have hD : va_D A [(h0, .inr (1, [.null, .int 0, .int 0, .int 0, .int 0, .int 0])), (q1, .inl (tC 0, 4096, .inl (fun _ => 0)))] := hD
  refine W.widen (k := 1) (n := 4096) (Nat.le_refl _) (Nat.le_refl _) ?_
  have g1 : CL[1]? = some ("TwoSlots$Flash", F_FL, 6) := rfl
  have g2 : (Cond.fieldLink "TwoSlots$Flash" 9 "TwoSlots$Flash" (F_FL 0).2.1 (F_FL 0).2.2.1).before ([.ref h0] : List Value).toArray s = true := hts _ tf_FL_9
  have g3 : parseFieldDescriptor (F_FL 0).2.2.1 = some (.array .byte) := by decide +kernel
  have g4 : (F_FL 0).2.2.2 = true := rfl
  refine va_putF (D := D) (ci := 1) (v := .ref q1) (ty := .array .byte) (C := "TwoSlots$Flash") (T := F_FL) (N := 6) (index := 9) (ref := "TwoSlots$Flash") hx hb hts ww_FL t_FL tt_FL nn_FL hown hK hP hD hS 0 rfl g1 0 (by decide) g2 (fun _ h9 => h9) g4 hin rfl g3 rfl rfl (Nat.le_of_ble_eq_true rfl) d_FL_init_10 (fun H locs hP hD hS => ?_)
  have hP : va_P D CL [(h0, .inr (1, [.ref q1, .int 0, .int 0, .int 0, .int 0, .int 0])), (q1, .inl (tC 0, 4096, .inl (fun _ => 0)))] H := hP
  have hD : va_D A [(h0, .inr (1, [.ref q1, .int 0, .int 0, .int 0, .int 0, .int 0])), (q1, .inl (tC 0, 4096, .inl (fun _ => 0)))] := hD
  have hne : h0 ≠ q1 := fun h => by
    have := hD.1 0 1 _ _ rfl rfl h
    omega
  have a0 : A h0 := hD.2 0 _ rfl
  have a1 : A q1 := hD.2 1 _ rfl
  have hDa : mm_Da A (fun k => if k = 0 then h0 else q1) LFl.length := mm_two hne a0 a1
  have hP : va_P D CL (mm_W tC (fun k => if k = 0 then h0 else q1) LFl x00) H := hP
  exact mm_end (ad := fun k => if k = 0 then h0 else q1) (L := LFl) (st0 := []) (lv0 := [(0, .ref 0)]) G_FLi (fun r x' => r = none ∧ x' = e_FLi x00) [] (fun _ _ _ _ => False) hx hb hml hr hlocks hown hts hK hDa LFl_u hA hNW ⟨Nat.le_of_ble_eq_true rfl, Nat.le_of_ble_eq_true rfl⟩ rfl ft_FL ci_FL cj_FL (cS_FLi l) (cV_FLi l)
    (fun x' H locs t hP hS hk ht => by
      obtain ⟨-, rfl⟩ := hk
      rw [FL_w] at hP
      refine ⟨⟨q1, rfl, trivial, by rw [ht]; exact hP, ?_⟩, hS.F ht⟩
      refine ⟨fun i j a b hi hj => ?_, fun k b hb => ?_⟩
      · rcases i with _ | _ | i <;> rcases j with _ | _ | j <;> simp at hi hj <;> subst hi <;> subst hj <;> intro h <;> first | rfl | exact absurd h hne | exact absurd h.symm hne
      · rcases k with _ | _ | k <;> simp at hb <;> subst hb
        · exact a0
        · exact a1)
    (fun k pc lv x' hpc => absurd hpc List.not_mem_nil) (h0_FLi [.ref 0] x00 (fun r x' => r = none ∧ x' = e_FLi x00) (S_FLi_i ⟨rfl, rfl⟩)) hP hS hl
