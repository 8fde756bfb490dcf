-- TwoSlotsModel.cut(II)I
def e_m_cut (v0 : Int32) (v1 : Int32) (x : mm_S) : Int32 × mm_S :=
  if (x.1 100) = (0 : Int32) then
    if (e_m_in (Int32.toInt64 v0) (-1 : Int64) (1000 : Int64) x) = (0 : Int32) then
      ((-102 : Int32), x)
    else
      if (e_m_in (Int32.toInt64 v1) (0 : Int64) (63 : Int64) x) = (0 : Int32) then
        ((-102 : Int32), x)
      else
        let x1 := mm_setI x 101 v0
        let x2 := mm_setI x1 102 v1
        ((1 : Int32), x2)
  else
    ((-100 : Int32), x)
def S_m_cut : mm_P := fun as x K => ∃ (v0 : Int32) (v1 : Int32), as = [.ref 11, .int v0, .int v1] ∧ K (some (.int (e_m_cut v0 v1 x).1)) (e_m_cut v0 v1 x).2
theorem i_m_cut {v0 : Int32} {v1 : Int32} {x : mm_S} {K : mm_K} (hk : K (some (.int (e_m_cut v0 v1 x).1)) (e_m_cut v0 v1 x).2) : S_m_cut [.ref 11, .int v0, .int v1] x K := ⟨_, _, rfl, hk⟩
def G_m_cut : mm_G := (FT_MO, CI_MO, CJ_MO, mm_tb [(76, 3, S_m_in)], mm_tb [], none)
def rm_m_cut : Room := { frames := 1, cells := 0, slots := 0, locals := 25 }
set_option maxHeartbeats 40000000 in
set_option maxRecDepth 10000 in
theorem c_m_cut (l : Launch) : mm_Con l NW CL TB LL y_MO_cut b_MO_cut 3 (some .int) rm_m_cut S_m_cut := by
  refine mm_con G_m_cut [] (fun _ _ _ _ _ _ _ => False) (by decide +kernel) tb_good LL_u nw_nest ?_ rfl ft_MO ci_MO cj_MO ?_ ?_ ?_ ?_
  · rintro as x K ⟨v0, v1, rfl, -⟩
    exact Nat.le_of_ble_eq_true rfl
  · exact mm_tb_e (List.forall_mem_cons.mpr ⟨mm_cst_i (c_m_in l) (mm_cb_i rfl rfl (by decide) (by decide) tc_MO_in ti_MO ⟨by decide, by decide, by decide +kernel⟩ (Or.inl tl_MO_76)) ts_MO_in, fun _ h => absurd h List.not_mem_nil⟩)
  · exact mm_tb_e (fun _ h => absurd h List.not_mem_nil)
  · rintro as x K ⟨v0, v1, rfl, hk⟩
    refine ⟨400, ?_⟩
    refine v_aload_n d_MO_cut_0 rfl ?_
    refine a_go (by decide) (v_getI d_MO_cut_1 rfl rfl rfl ?_)
    refine a_go (by decide) (v_if_eq d_MO_cut_4 (t := 10) (by decide) (fun c1 => ?_) (fun c1 => ?_))
    · skip
      refine a_go (by decide) (v_iload_n d_MO_cut_10 rfl ?_)
      refine a_go (by decide) (v_i2l d_MO_cut_11 ?_)
      refine a_go (by decide) (v_ldc2 d_MO_cut_12 rfl ?_)
      refine a_go (by decide) (v_ldc2 d_MO_cut_15 rfl ?_)
      refine a_go (by decide) (v_callS d_MO_cut_18 rfl (mm_spl 3 rfl) rfl (Nat.le_of_ble_eq_true rfl) ?_)
      refine (i_m_in ?_)
      refine a_go (by decide) (v_if_eq d_MO_cut_21 (t := 36) (by decide) (fun c2 => ?_) (fun c2 => ?_))
      · skip
        refine a_go (by decide) (v_bipush d_MO_cut_36 kb_m102 ?_)
        refine a_go (by decide) (v_ireturn d_MO_cut_38 rfl rfl ?_)
        exact mm_fiVS hk (mm_ifp c1 (mm_ifp c2 rfl))
      · skip
        refine a_go (by decide) (v_iload_n d_MO_cut_24 rfl ?_)
        refine a_go (by decide) (v_i2l d_MO_cut_25 ?_)
        refine a_go (by decide) (v_lconst d_MO_cut_26 kl_0 ?_)
        refine a_go (by decide) (v_ldc2 d_MO_cut_27 rfl ?_)
        refine a_go (by decide) (v_callS d_MO_cut_30 rfl (mm_spl 3 rfl) rfl (Nat.le_of_ble_eq_true rfl) ?_)
        refine (i_m_in ?_)
        refine a_go (by decide) (v_if_ne d_MO_cut_33 (t := 39) (by decide) (fun c3 => ?_) (fun c3 => ?_))
        · skip
          refine a_go (by decide) (v_aload_n d_MO_cut_39 rfl ?_)
          refine a_go (by decide) (v_iload_n d_MO_cut_40 rfl ?_)
          refine a_go (by decide) (v_putI d_MO_cut_41 rfl rfl rfl ?_)
          refine a_go (by decide) (v_aload_n d_MO_cut_44 rfl ?_)
          refine a_go (by decide) (v_iload_n d_MO_cut_45 rfl ?_)
          refine a_go (by decide) (v_putI d_MO_cut_46 rfl rfl rfl ?_)
          refine a_go (by decide) (v_iconst d_MO_cut_49 ki_1 ?_)
          refine a_go (by decide) (v_ireturn d_MO_cut_50 rfl rfl ?_)
          exact mm_fiVS hk (mm_ifp c1 (mm_ifn c2 (mm_ifn c3 rfl)))
        · skip
          refine a_go (by decide) (v_bipush d_MO_cut_36 kb_m102 ?_)
          refine a_go (by decide) (v_ireturn d_MO_cut_38 rfl rfl ?_)
          exact mm_fiVS hk (mm_ifp c1 (mm_ifn c2 (mm_ifp c3 rfl)))
    · skip
      refine a_go (by decide) (v_bipush d_MO_cut_7 kb_m100 ?_)
      refine a_go (by decide) (v_ireturn d_MO_cut_9 rfl rfl ?_)
      exact mm_fiVS hk (mm_ifn c1 rfl)
  · intro as x K _ k pc lv x' h
    cases h
-- TwoSlotsModel.start()I
def e_m_start (x : mm_S) : Int32 × mm_S :=
  if (x.1 100) = (0 : Int32) then
    ((-103 : Int32), x)
  else
    let x1 := mm_setI x 100 (0 : Int32)
    let x2 := mm_setI x1 101 (-1 : Int32)
    ((1 : Int32), x2)
def S_m_start : mm_P := fun as x K => as = [.ref 11] ∧ K (some (.int (e_m_start x).1)) (e_m_start x).2
theorem i_m_start {x : mm_S} {K : mm_K} (hk : K (some (.int (e_m_start x).1)) (e_m_start x).2) : S_m_start [.ref 11] x K := ⟨rfl, hk⟩
def G_m_start : mm_G := (FT_MO, CI_MO, CJ_MO, mm_tb [], mm_tb [], none)
def rm_m_start : Room := { frames := 0, cells := 0, slots := 0, locals := 0 }
set_option maxHeartbeats 40000000 in
set_option maxRecDepth 10000 in
theorem c_m_start (l : Launch) : mm_Con l NW CL TB LL y_MO_start b_MO_start 1 (some .int) rm_m_start S_m_start := by
  refine mm_con G_m_start [] (fun _ _ _ _ _ _ _ => False) (by decide +kernel) tb_good LL_u nw_nest ?_ rfl ft_MO ci_MO cj_MO ?_ ?_ ?_ ?_
  · rintro as x K ⟨rfl, -⟩
    exact Nat.le_of_ble_eq_true rfl
  · exact mm_tb_e (fun _ h => absurd h List.not_mem_nil)
  · exact mm_tb_e (fun _ h => absurd h List.not_mem_nil)
  · rintro as x K ⟨rfl, hk⟩
    refine ⟨400, ?_⟩
    refine v_aload_n d_MO_start_0 rfl ?_
    refine a_go (by decide) (v_getI d_MO_start_1 rfl rfl rfl ?_)
    refine a_go (by decide) (v_if_ne d_MO_start_4 (t := 10) (by decide) (fun c1 => ?_) (fun c1 => ?_))
    · skip
      refine a_go (by decide) (v_aload_n d_MO_start_10 rfl ?_)
      refine a_go (by decide) (v_iconst d_MO_start_11 ki_0 ?_)
      refine a_go (by decide) (v_putZ d_MO_start_12 rfl rfl rfl (by decide) ?_)
      refine a_go (by decide) (v_aload_n d_MO_start_15 rfl ?_)
      refine a_go (by decide) (v_iconst d_MO_start_16 ki_m1 ?_)
      refine a_go (by decide) (v_putI d_MO_start_17 rfl rfl rfl ?_)
      refine a_go (by decide) (v_iconst d_MO_start_20 ki_1 ?_)
      refine a_go (by decide) (v_ireturn d_MO_start_21 rfl rfl ?_)
      exact mm_fiVS hk (mm_ifn c1 rfl)
    · skip
      refine a_go (by decide) (v_bipush d_MO_start_7 kb_m103 ?_)
      refine a_go (by decide) (v_ireturn d_MO_start_9 rfl rfl ?_)
      exact mm_fiVS hk (mm_ifp c1 rfl)
  · intro as x K _ k pc lv x' h
    cases h
-- TwoSlotsModel.isByte(II)Z
def e_m_isByte (v0 : Int32) (v1 : Int32) (x : mm_S) : Int32 :=
  if (e_m_in (Int32.toInt64 v0) (0 : Int64) (63 : Int64) x) = (0 : Int32) then
    (0 : Int32)
  else
    if (e_m_in (Int32.toInt64 v1) (0 : Int64) (63 : Int64) x) = (0 : Int32) then
      (0 : Int32)
    else
      (1 : Int32)
def S_m_isByte : mm_P := fun as x K => ∃ (v0 : Int32) (v1 : Int32), as = [.int v0, .int v1] ∧ K (some (.int (e_m_isByte v0 v1 x))) x
theorem i_m_isByte {v0 : Int32} {v1 : Int32} {x : mm_S} {K : mm_K} (hk : K (some (.int (e_m_isByte v0 v1 x))) x) : S_m_isByte [.int v0, .int v1] x K := ⟨_, _, rfl, hk⟩
def G_m_isByte : mm_G := (FT_MO, CI_MO, CJ_MO, mm_tb [(76, 3, S_m_in)], mm_tb [], none)
def rm_m_isByte : Room := { frames := 1, cells := 0, slots := 0, locals := 25 }
set_option maxHeartbeats 40000000 in
set_option maxRecDepth 10000 in
theorem c_m_isByte (l : Launch) : mm_Con l NW CL TB LL y_MO_isByte b_MO_isByte 2 (some .boolean) rm_m_isByte S_m_isByte := by
  refine mm_con G_m_isByte [] (fun _ _ _ _ _ _ _ => False) (by decide +kernel) tb_good LL_u nw_nest ?_ rfl ft_MO ci_MO cj_MO ?_ ?_ ?_ ?_
  · rintro as x K ⟨v0, v1, rfl, -⟩
    exact Nat.le_of_ble_eq_true rfl
  · exact mm_tb_e (List.forall_mem_cons.mpr ⟨mm_cst_i (c_m_in l) (mm_cb_i rfl rfl (by decide) (by decide) tc_MO_in ti_MO ⟨by decide, by decide, by decide +kernel⟩ (Or.inl tl_MO_76)) ts_MO_in, fun _ h => absurd h List.not_mem_nil⟩)
  · exact mm_tb_e (fun _ h => absurd h List.not_mem_nil)
  · rintro as x K ⟨v0, v1, rfl, hk⟩
    refine ⟨400, ?_⟩
    refine v_iload_n d_MO_isByte_0 rfl ?_
    refine a_go (by decide) (v_i2l d_MO_isByte_1 ?_)
    refine a_go (by decide) (v_lconst d_MO_isByte_2 kl_0 ?_)
    refine a_go (by decide) (v_ldc2 d_MO_isByte_3 rfl ?_)
    refine a_go (by decide) (v_callS d_MO_isByte_6 rfl (mm_spl 3 rfl) rfl (Nat.le_of_ble_eq_true rfl) ?_)
    refine (i_m_in ?_)
    refine a_go (by decide) (v_if_eq d_MO_isByte_9 (t := 28) (by decide) (fun c1 => ?_) (fun c1 => ?_))
    · skip
      refine a_go (by decide) (v_iconst d_MO_isByte_28 ki_0 ?_)
      refine a_go (by decide) (v_zreturn d_MO_isByte_29 rfl (by decide) ?_)
      exact mm_fiV hk (mm_ifp c1 rfl)
    · skip
      refine a_go (by decide) (v_iload_n d_MO_isByte_12 rfl ?_)
      refine a_go (by decide) (v_i2l d_MO_isByte_13 ?_)
      refine a_go (by decide) (v_lconst d_MO_isByte_14 kl_0 ?_)
      refine a_go (by decide) (v_ldc2 d_MO_isByte_15 rfl ?_)
      refine a_go (by decide) (v_callS d_MO_isByte_18 rfl (mm_spl 3 rfl) rfl (Nat.le_of_ble_eq_true rfl) ?_)
      refine (i_m_in ?_)
      refine a_go (by decide) (v_if_eq d_MO_isByte_21 (t := 28) (by decide) (fun c2 => ?_) (fun c2 => ?_))
      · skip
        refine a_go (by decide) (v_iconst d_MO_isByte_28 ki_0 ?_)
        refine a_go (by decide) (v_zreturn d_MO_isByte_29 rfl (by decide) ?_)
        exact mm_fiV hk (mm_ifn c1 (mm_ifp c2 rfl))
      · skip
        refine a_go (by decide) (v_iconst d_MO_isByte_24 ki_1 ?_)
        refine a_go (by decide) (v_goto d_MO_isByte_25 (t := 29) (by decide) ?_)
        refine a_go (by decide) (v_zreturn d_MO_isByte_29 rfl (by decide) ?_)
        exact mm_fiV hk (mm_ifn c1 (mm_ifn c2 rfl))
  · intro as x K _ k pc lv x' h
    cases h
-- TwoSlotsModel.rot(III)I
def e_m_rot (v0 : Int32) (v1 : Int32) (v2 : Int32) (x : mm_S) : Int32 × mm_S :=
  if (e_m_isByte v0 v1 x) = (0 : Int32) then
    ((-101 : Int32), x)
  else
    let x1 := mm_setA x 10 (upd (x.2.2 10) (Int32.toNatClampNeg (((64 : Int32) * v0) + v1)) ((x.2.2 10 (Int32.toNatClampNeg (((64 : Int32) * v0) + v1))) ^^^ (v2 &&& (255 : Int32))))
    (x1.2.2 10 (Int32.toNatClampNeg (((64 : Int32) * v0) + v1)), x1)
def ok_m_rot (v0 : Int32) (v1 : Int32) (v2 : Int32) (x : mm_S) : Prop := if (e_m_isByte v0 v1 x) = (0 : Int32) then (True) else ((vp_in (((64 : Int32) * v0) + v1) 4096) ∧ ((vp_in (((64 : Int32) * v0) + v1) 4096) ∧ (let x1 := mm_setA x 10 (upd (x.2.2 10) (Int32.toNatClampNeg (((64 : Int32) * v0) + v1)) ((x.2.2 10 (Int32.toNatClampNeg (((64 : Int32) * v0) + v1))) ^^^ (v2 &&& (255 : Int32)))); (vp_in (((64 : Int32) * v0) + v1) 4096) ∧ (True))))
def S_m_rot : mm_P := fun as x K => ∃ (v0 : Int32) (v1 : Int32) (v2 : Int32), as = [.ref 11, .int v0, .int v1, .int v2] ∧ (ok_m_rot v0 v1 v2 x) ∧ K (some (.int (e_m_rot v0 v1 v2 x).1)) (e_m_rot v0 v1 v2 x).2
theorem i_m_rot {v0 : Int32} {v1 : Int32} {v2 : Int32} {x : mm_S} {K : mm_K} (hpre : (ok_m_rot v0 v1 v2 x)) (hk : K (some (.int (e_m_rot v0 v1 v2 x).1)) (e_m_rot v0 v1 v2 x).2) : S_m_rot [.ref 11, .int v0, .int v1, .int v2] x K := ⟨_, _, _, rfl, hpre, hk⟩
def G_m_rot : mm_G := (FT_MO, CI_MO, CJ_MO, mm_tb [(181, 2, S_m_isByte)], mm_tb [], none)
def rm_m_rot : Room := { frames := 2, cells := 0, slots := 0, locals := 46 }
set_option maxHeartbeats 40000000 in
set_option maxRecDepth 10000 in
theorem c_m_rot (l : Launch) : mm_Con l NW CL TB LL y_MO_rot b_MO_rot 4 (some .int) rm_m_rot S_m_rot := by
  refine mm_con G_m_rot [] (fun _ _ _ _ _ _ _ => False) (by decide +kernel) tb_good LL_u nw_nest ?_ rfl ft_MO ci_MO cj_MO ?_ ?_ ?_ ?_
  · rintro as x K ⟨v0, v1, v2, rfl, -⟩
    exact Nat.le_of_ble_eq_true rfl
  · exact mm_tb_e (List.forall_mem_cons.mpr ⟨mm_cst_i (c_m_isByte l) (mm_cb_i rfl rfl (by decide) (by decide) tc_MO_isByte ti_MO ⟨by decide, by decide, by decide +kernel⟩ (Or.inl tl_MO_181)) ts_MO_isByte, fun _ h => absurd h List.not_mem_nil⟩)
  · exact mm_tb_e (fun _ h => absurd h List.not_mem_nil)
  · rintro as x K ⟨v0, v1, v2, rfl, hok, hk⟩
    refine ⟨400, ?_⟩
    refine v_iload_n d_MO_rot_0 rfl ?_
    refine a_go (by decide) (v_iload_n d_MO_rot_1 rfl ?_)
    refine a_go (by decide) (v_callS d_MO_rot_2 rfl (mm_spl 2 rfl) rfl (Nat.le_of_ble_eq_true rfl) ?_)
    refine (i_m_isByte ?_)
    refine a_go (by decide) (v_if_ne d_MO_rot_5 (t := 11) (by decide) (fun c1 => ?_) (fun c1 => ?_))
    · skip
      replace hok := mm_okn hok c1
      refine a_go (by decide) (v_aload_n d_MO_rot_11 rfl ?_)
      refine a_go (by decide) (v_getR d_MO_rot_12 rfl rfl rfl ?_)
      refine a_go (by decide) (v_bipush d_MO_rot_15 kb_64 ?_)
      refine a_go (by decide) (v_iload_n d_MO_rot_17 rfl ?_)
      refine a_go (by decide) (v_imul d_MO_rot_18 ?_)
      refine a_go (by decide) (v_iload_n d_MO_rot_19 rfl ?_)
      refine a_go (by decide) (v_iadd d_MO_rot_20 ?_)
      refine a_go (by decide) (v_dup2 d_MO_rot_21 rfl rfl ?_)
      have o1 := And.left hok
      replace hok := And.right hok
      refine a_go (by decide) (v_iaload d_MO_rot_22 (by decide) rfl o1 ?_)
      refine a_go (by decide) (v_iload_n d_MO_rot_23 rfl ?_)
      refine a_go (by decide) (v_sipush d_MO_rot_24 ks_255 ?_)
      refine a_go (by decide) (v_iand d_MO_rot_27 ?_)
      refine a_go (by decide) (v_ixor d_MO_rot_28 ?_)
      have o2 := And.left hok
      replace hok := And.right hok
      refine a_go (by decide) (v_iastore d_MO_rot_29 rfl o2 ?_)
      refine a_go (by decide) (v_aload_n d_MO_rot_30 rfl ?_)
      refine a_go (by decide) (v_getR d_MO_rot_31 rfl rfl rfl ?_)
      refine a_go (by decide) (v_bipush d_MO_rot_34 kb_64 ?_)
      refine a_go (by decide) (v_iload_n d_MO_rot_36 rfl ?_)
      refine a_go (by decide) (v_imul d_MO_rot_37 ?_)
      refine a_go (by decide) (v_iload_n d_MO_rot_38 rfl ?_)
      refine a_go (by decide) (v_iadd d_MO_rot_39 ?_)
      have o3 := And.left hok
      replace hok := And.right hok
      refine a_go (by decide) (v_iaload d_MO_rot_40 (by decide) rfl o3 ?_)
      refine a_go (by decide) (v_ireturn d_MO_rot_41 rfl rfl ?_)
      exact mm_fiVS hk (mm_ifn c1 rfl)
    · skip
      replace hok := mm_okp hok c1
      refine a_go (by decide) (v_bipush d_MO_rot_8 kb_m101 ?_)
      refine a_go (by decide) (v_ireturn d_MO_rot_10 rfl rfl ?_)
      exact mm_fiVS hk (mm_ifp c1 rfl)
  · intro as x K _ k pc lv x' h
    cases h
-- TwoSlotsModel.octet(II)I
def e_m_octet (v0 : Int32) (v1 : Int32) (x : mm_S) : Int32 :=
  if (e_m_isByte v0 v1 x) = (0 : Int32) then
    (-101 : Int32)
  else
    x.2.2 10 (Int32.toNatClampNeg (((64 : Int32) * v0) + v1))
def ok_m_octet (v0 : Int32) (v1 : Int32) (x : mm_S) : Prop := if (e_m_isByte v0 v1 x) = (0 : Int32) then (True) else ((vp_in (((64 : Int32) * v0) + v1) 4096) ∧ (True))
def S_m_octet : mm_P := fun as x K => ∃ (v0 : Int32) (v1 : Int32), as = [.ref 11, .int v0, .int v1] ∧ (ok_m_octet v0 v1 x) ∧ K (some (.int (e_m_octet v0 v1 x))) x
theorem i_m_octet {v0 : Int32} {v1 : Int32} {x : mm_S} {K : mm_K} (hpre : (ok_m_octet v0 v1 x)) (hk : K (some (.int (e_m_octet v0 v1 x))) x) : S_m_octet [.ref 11, .int v0, .int v1] x K := ⟨_, _, rfl, hpre, hk⟩
def G_m_octet : mm_G := (FT_MO, CI_MO, CJ_MO, mm_tb [(181, 2, S_m_isByte)], mm_tb [], none)
def rm_m_octet : Room := { frames := 2, cells := 0, slots := 0, locals := 46 }
set_option maxHeartbeats 40000000 in
set_option maxRecDepth 10000 in
theorem c_m_octet (l : Launch) : mm_Con l NW CL TB LL y_MO_octet b_MO_octet 3 (some .int) rm_m_octet S_m_octet := by
  refine mm_con G_m_octet [] (fun _ _ _ _ _ _ _ => False) (by decide +kernel) tb_good LL_u nw_nest ?_ rfl ft_MO ci_MO cj_MO ?_ ?_ ?_ ?_
  · rintro as x K ⟨v0, v1, rfl, -⟩
    exact Nat.le_of_ble_eq_true rfl
  · exact mm_tb_e (List.forall_mem_cons.mpr ⟨mm_cst_i (c_m_isByte l) (mm_cb_i rfl rfl (by decide) (by decide) tc_MO_isByte ti_MO ⟨by decide, by decide, by decide +kernel⟩ (Or.inl tl_MO_181)) ts_MO_isByte, fun _ h => absurd h List.not_mem_nil⟩)
  · exact mm_tb_e (fun _ h => absurd h List.not_mem_nil)
  · rintro as x K ⟨v0, v1, rfl, hok, hk⟩
    refine ⟨400, ?_⟩
    refine v_iload_n d_MO_octet_0 rfl ?_
    refine a_go (by decide) (v_iload_n d_MO_octet_1 rfl ?_)
    refine a_go (by decide) (v_callS d_MO_octet_2 rfl (mm_spl 2 rfl) rfl (Nat.le_of_ble_eq_true rfl) ?_)
    refine (i_m_isByte ?_)
    refine a_go (by decide) (v_if_eq d_MO_octet_5 (t := 22) (by decide) (fun c1 => ?_) (fun c1 => ?_))
    · skip
      replace hok := mm_okp hok c1
      refine a_go (by decide) (v_bipush d_MO_octet_22 kb_m101 ?_)
      refine a_go (by decide) (v_ireturn d_MO_octet_24 rfl rfl ?_)
      exact mm_fiV hk (mm_ifp c1 rfl)
    · skip
      replace hok := mm_okn hok c1
      refine a_go (by decide) (v_aload_n d_MO_octet_8 rfl ?_)
      refine a_go (by decide) (v_getR d_MO_octet_9 rfl rfl rfl ?_)
      refine a_go (by decide) (v_bipush d_MO_octet_12 kb_64 ?_)
      refine a_go (by decide) (v_iload_n d_MO_octet_14 rfl ?_)
      refine a_go (by decide) (v_imul d_MO_octet_15 ?_)
      refine a_go (by decide) (v_iload_n d_MO_octet_16 rfl ?_)
      refine a_go (by decide) (v_iadd d_MO_octet_17 ?_)
      have o1 := And.left hok
      replace hok := And.right hok
      refine a_go (by decide) (v_iaload d_MO_octet_18 (by decide) rfl o1 ?_)
      refine a_go (by decide) (v_goto d_MO_octet_19 (t := 24) (by decide) ?_)
      refine a_go (by decide) (v_ireturn d_MO_octet_24 rfl rfl ?_)
      exact mm_fiV hk (mm_ifn c1 rfl)
  · intro as x K _ k pc lv x' h
    cases h
-- TwoSlotsModel.running()I
def e_m_running (x : mm_S) : Int32 :=
  if (x.1 100) = (0 : Int32) then
    x.1 103
  else
    (-100 : Int32)
def S_m_running : mm_P := fun as x K => as = [.ref 11] ∧ K (some (.int (e_m_running x))) x
theorem i_m_running {x : mm_S} {K : mm_K} (hk : K (some (.int (e_m_running x))) x) : S_m_running [.ref 11] x K := ⟨rfl, hk⟩
def G_m_running : mm_G := (FT_MO, CI_MO, CJ_MO, mm_tb [], mm_tb [], none)
def rm_m_running : Room := { frames := 0, cells := 0, slots := 0, locals := 0 }
set_option maxHeartbeats 40000000 in
set_option maxRecDepth 10000 in
theorem c_m_running (l : Launch) : mm_Con l NW CL TB LL y_MO_running b_MO_running 1 (some .int) rm_m_running S_m_running := by
  refine mm_con G_m_running [] (fun _ _ _ _ _ _ _ => False) (by decide +kernel) tb_good LL_u nw_nest ?_ rfl ft_MO ci_MO cj_MO ?_ ?_ ?_ ?_
  · rintro as x K ⟨rfl, -⟩
    exact Nat.le_of_ble_eq_true rfl
  · exact mm_tb_e (fun _ h => absurd h List.not_mem_nil)
  · exact mm_tb_e (fun _ h => absurd h List.not_mem_nil)
  · rintro as x K ⟨rfl, hk⟩
    refine ⟨400, ?_⟩
    refine v_aload_n d_MO_running_0 rfl ?_
    refine a_go (by decide) (v_getI d_MO_running_1 rfl rfl rfl ?_)
    refine a_go (by decide) (v_if_eq d_MO_running_4 (t := 12) (by decide) (fun c1 => ?_) (fun c1 => ?_))
    · skip
      refine a_go (by decide) (v_aload_n d_MO_running_12 rfl ?_)
      refine a_go (by decide) (v_getI d_MO_running_13 rfl rfl rfl ?_)
      refine a_go (by decide) (v_ireturn d_MO_running_16 rfl rfl ?_)
      exact mm_fiV hk (mm_ifp c1 rfl)
    · skip
      refine a_go (by decide) (v_bipush d_MO_running_7 kb_m100 ?_)
      refine a_go (by decide) (v_goto d_MO_running_9 (t := 16) (by decide) ?_)
      refine a_go (by decide) (v_ireturn d_MO_running_16 rfl rfl ?_)
      exact mm_fiV hk (mm_ifn c1 rfl)
  · intro as x K _ k pc lv x' h
    cases h
-- TwoSlotsModel.watchdog()I
def e_m_watchdog (x : mm_S) : Int32 :=
  if (x.1 100) = (0 : Int32) then
    x.1 104
  else
    (-100 : Int32)
def S_m_watchdog : mm_P := fun as x K => as = [.ref 11] ∧ K (some (.int (e_m_watchdog x))) x
theorem i_m_watchdog {x : mm_S} {K : mm_K} (hk : K (some (.int (e_m_watchdog x))) x) : S_m_watchdog [.ref 11] x K := ⟨rfl, hk⟩
def G_m_watchdog : mm_G := (FT_MO, CI_MO, CJ_MO, mm_tb [], mm_tb [], none)
def rm_m_watchdog : Room := { frames := 0, cells := 0, slots := 0, locals := 0 }
set_option maxHeartbeats 40000000 in
set_option maxRecDepth 10000 in
theorem c_m_watchdog (l : Launch) : mm_Con l NW CL TB LL y_MO_watchdog b_MO_watchdog 1 (some .int) rm_m_watchdog S_m_watchdog := by
  refine mm_con G_m_watchdog [] (fun _ _ _ _ _ _ _ => False) (by decide +kernel) tb_good LL_u nw_nest ?_ rfl ft_MO ci_MO cj_MO ?_ ?_ ?_ ?_
  · rintro as x K ⟨rfl, -⟩
    exact Nat.le_of_ble_eq_true rfl
  · exact mm_tb_e (fun _ h => absurd h List.not_mem_nil)
  · exact mm_tb_e (fun _ h => absurd h List.not_mem_nil)
  · rintro as x K ⟨rfl, hk⟩
    refine ⟨400, ?_⟩
    refine v_aload_n d_MO_watchdog_0 rfl ?_
    refine a_go (by decide) (v_getI d_MO_watchdog_1 rfl rfl rfl ?_)
    refine a_go (by decide) (v_if_eq d_MO_watchdog_4 (t := 12) (by decide) (fun c1 => ?_) (fun c1 => ?_))
    · skip
      refine a_go (by decide) (v_aload_n d_MO_watchdog_12 rfl ?_)
      refine a_go (by decide) (v_getI d_MO_watchdog_13 rfl rfl rfl ?_)
      refine a_go (by decide) (v_ireturn d_MO_watchdog_16 rfl rfl ?_)
      exact mm_fiV hk (mm_ifp c1 rfl)
    · skip
      refine a_go (by decide) (v_bipush d_MO_watchdog_7 kb_m100 ?_)
      refine a_go (by decide) (v_goto d_MO_watchdog_9 (t := 16) (by decide) ?_)
      refine a_go (by decide) (v_ireturn d_MO_watchdog_16 rfl rfl ?_)
      exact mm_fiV hk (mm_ifn c1 rfl)
  · intro as x K _ k pc lv x' h
    cases h
-- TwoSlotsModel.slot(II)I
def e_m_slot (v0 : Int32) (v1 : Int32) (x : mm_S) : Int32 :=
  if (e_m_in (Int32.toInt64 v0) (0 : Int64) (1 : Int64) x) = (0 : Int32) then
    (-101 : Int32)
  else
    if (e_m_in (Int32.toInt64 v1) (0 : Int64) (4 : Int64) x) = (0 : Int32) then
      (-102 : Int32)
    else
      let y1 := e_m_headOf v0 x
      let y2 := e_m_isRight 4096 10 y1 x
      if (2 : Int32) ≤ v1 then
        if y2 = (0 : Int32) then
          (0 : Int32)
        else
          if v1 = (2 : Int32) then
            Int64.toInt32 (e_m_read 4096 10 (y1 + (4 : Int32)) (4 : Int32) x)
          else
            if v1 = (3 : Int32) then
              Int64.toInt32 (e_m_read 4096 10 (y1 + (8 : Int32)) (4 : Int32) x)
            else
              x.2.2 10 (Int32.toNatClampNeg (y1 + (12 : Int32)))
      else
        if v1 = (0 : Int32) then
          if (e_m_isGood v0 x) = (0 : Int32) then
            (0 : Int32)
          else
            (1 : Int32)
        else
          if y2 = (0 : Int32) then
            (0 : Int32)
          else
            (1 : Int32)
def ok_m_slot (v0 : Int32) (v1 : Int32) (x : mm_S) : Prop := if (e_m_in (Int32.toInt64 v0) (0 : Int64) (1 : Int64) x) = (0 : Int32) then (True) else (if (e_m_in (Int32.toInt64 v1) (0 : Int64) (4 : Int64) x) = (0 : Int32) then (True) else (let y1 := e_m_headOf v0 x; (ok_m_isRight 4096 10 y1 x) ∧ (let y2 := e_m_isRight 4096 10 y1 x; if (2 : Int32) ≤ v1 then (if y2 = (0 : Int32) then (True) else (if v1 = (2 : Int32) then ((ok_m_read 4096 10 (y1 + (4 : Int32)) (4 : Int32) x) ∧ (True)) else (if v1 = (3 : Int32) then ((ok_m_read 4096 10 (y1 + (8 : Int32)) (4 : Int32) x) ∧ (True)) else ((vp_in (y1 + (12 : Int32)) 4096) ∧ (True))))) else (if v1 = (0 : Int32) then ((ok_m_isGood v0 x) ∧ (if (e_m_isGood v0 x) = (0 : Int32) then (True) else (True))) else (if y2 = (0 : Int32) then (True) else (True))))))
def S_m_slot : mm_P := fun as x K => ∃ (v0 : Int32) (v1 : Int32), as = [.ref 11, .int v0, .int v1] ∧ (ok_m_slot v0 v1 x) ∧ K (some (.int (e_m_slot v0 v1 x))) x
theorem i_m_slot {v0 : Int32} {v1 : Int32} {x : mm_S} {K : mm_K} (hpre : (ok_m_slot v0 v1 x)) (hk : K (some (.int (e_m_slot v0 v1 x))) x) : S_m_slot [.ref 11, .int v0, .int v1] x K := ⟨_, _, rfl, hpre, hk⟩
def G_m_slot : mm_G := (FT_MO, CI_MO, CJ_MO, mm_tb [(76, 3, S_m_in), (84, 1, S_m_headOf)], mm_tb [(88, 3, 5, S_m_isRight), (68, 4, 5, S_m_read), (169, 2, 5, S_m_isGood)], none)
def rm_m_slot : Room := { frames := 4, cells := 0, slots := 0, locals := 98 }
set_option maxHeartbeats 40000000 in
set_option maxRecDepth 10000 in
theorem c_m_slot (l : Launch) : mm_Con l NW CL TB LL y_MO_slot b_MO_slot 5 (some .int) rm_m_slot S_m_slot := by
  refine mm_con G_m_slot [] (fun _ _ _ _ _ _ _ => False) (by decide +kernel) tb_good LL_u nw_nest ?_ rfl ft_MO ci_MO cj_MO ?_ ?_ ?_ ?_
  · rintro as x K ⟨v0, v1, rfl, -⟩
    exact Nat.le_of_ble_eq_true rfl
  · exact mm_tb_e (List.forall_mem_cons.mpr ⟨mm_cst_i (c_m_in l) (mm_cb_i rfl rfl (by decide) (by decide) tc_MO_in ti_MO ⟨by decide, by decide, by decide +kernel⟩ (Or.inl tl_MO_76)) ts_MO_in, List.forall_mem_cons.mpr ⟨mm_cst_i (c_m_headOf l) (mm_cb_i rfl rfl (by decide) (by decide) tc_MO_headOf ti_MO ⟨by decide, by decide, by decide +kernel⟩ (Or.inl tl_MO_84)) ts_MO_headOf, fun _ h => absurd h List.not_mem_nil⟩⟩)
  · exact mm_tb_e (List.forall_mem_cons.mpr ⟨mm_cvt_i (c_m_isRight l) (mm_cb_i rfl rfl (by decide) (by decide) tc_MO_isRight ti_MO ⟨by decide, by decide, by decide +kernel⟩ (Or.inl tl_MO_88)) rfl tv_MO_isRight tx_MO_isRight, List.forall_mem_cons.mpr ⟨mm_cvt_i (c_m_read l) (mm_cb_i rfl rfl (by decide) (by decide) tc_MO_read ti_MO ⟨by decide, by decide, by decide +kernel⟩ (Or.inl tl_MO_68)) rfl tv_MO_read tx_MO_read, List.forall_mem_cons.mpr ⟨mm_cvt_i (c_m_isGood l) (mm_cb_i rfl rfl (by decide) (by decide) tc_MO_isGood ti_MO ⟨by decide, by decide, by decide +kernel⟩ (Or.inl tl_MO_169)) rfl tv_MO_isGood tx_MO_isGood, fun _ h => absurd h List.not_mem_nil⟩⟩⟩)
  · rintro as x K ⟨v0, v1, rfl, hok, hk⟩
    refine ⟨400, ?_⟩
    refine v_iload_n d_MO_slot_0 rfl ?_
    refine a_go (by decide) (v_i2l d_MO_slot_1 ?_)
    refine a_go (by decide) (v_lconst d_MO_slot_2 kl_0 ?_)
    refine a_go (by decide) (v_lconst d_MO_slot_3 kl_1 ?_)
    refine a_go (by decide) (v_callS d_MO_slot_4 rfl (mm_spl 3 rfl) rfl (Nat.le_of_ble_eq_true rfl) ?_)
    refine (i_m_in ?_)
    refine a_go (by decide) (v_if_ne d_MO_slot_7 (t := 13) (by decide) (fun c1 => ?_) (fun c1 => ?_))
    · skip
      replace hok := mm_okn hok c1
      refine a_go (by decide) (v_iload_n d_MO_slot_13 rfl ?_)
      refine a_go (by decide) (v_i2l d_MO_slot_14 ?_)
      refine a_go (by decide) (v_lconst d_MO_slot_15 kl_0 ?_)
      refine a_go (by decide) (v_ldc2 d_MO_slot_16 rfl ?_)
      refine a_go (by decide) (v_callS d_MO_slot_19 rfl (mm_spl 3 rfl) rfl (Nat.le_of_ble_eq_true rfl) ?_)
      refine (i_m_in ?_)
      refine a_go (by decide) (v_if_ne d_MO_slot_22 (t := 28) (by decide) (fun c2 => ?_) (fun c2 => ?_))
      · skip
        replace hok := mm_okn hok c2
        refine a_go (by decide) (v_iload_n d_MO_slot_28 rfl ?_)
        refine a_go (by decide) (v_callS d_MO_slot_29 rfl (mm_spl 1 rfl) rfl (Nat.le_of_ble_eq_true rfl) ?_)
        refine (i_m_headOf ?_)
        refine a_go (by decide) (v_istore_n d_MO_slot_32 (by decide) ?_)
        refine a_go (by decide) (v_aload_n d_MO_slot_33 rfl ?_)
        refine a_go (by decide) (v_aload_n d_MO_slot_34 rfl ?_)
        refine a_go (by decide) (v_getR d_MO_slot_35 rfl rfl rfl ?_)
        refine a_go (by decide) (v_iload_n d_MO_slot_38 rfl ?_)
        refine a_go (by decide) (v_callV d_MO_slot_39 rfl (mm_spl 3 rfl) rfl (Nat.le_of_ble_eq_true rfl) rfl ?_)
        have o1 := And.left hok
        replace hok := And.right hok
        refine (i_m_isRight rfl o1 ?_)
        refine a_go (by decide) (v_istore d_MO_slot_42 (by decide) ?_)
        refine a_go (by decide) (v_iload_n d_MO_slot_44 rfl ?_)
        refine a_go (by decide) (v_iconst d_MO_slot_45 ki_2 ?_)
        refine a_go (by decide) (v_icmp_ge d_MO_slot_46 (t := 75) (by decide) (fun c3 => ?_) (fun c3 => ?_))
        · skip
          replace hok := mm_okp hok c3
          refine a_go (by decide) (v_iload d_MO_slot_75 rfl ?_)
          refine a_go (by decide) (v_if_ne d_MO_slot_77 (t := 84) (by decide) (fun c4 => ?_) (fun c4 => ?_))
          · skip
            replace hok := mm_okn hok c4
            refine a_go (by decide) (v_iload_n d_MO_slot_84 rfl ?_)
            refine a_go (by decide) (v_iconst d_MO_slot_85 ki_2 ?_)
            refine a_go (by decide) (v_icmp_ne d_MO_slot_86 (t := 105) (by decide) (fun c5 => ?_) (fun c5 => ?_))
            · skip
              replace hok := mm_okn hok c5
              refine a_go (by decide) (v_iload_n d_MO_slot_105 rfl ?_)
              refine a_go (by decide) (v_iconst d_MO_slot_106 ki_3 ?_)
              refine a_go (by decide) (v_icmp_ne d_MO_slot_107 (t := 127) (by decide) (fun c6 => ?_) (fun c6 => ?_))
              · skip
                replace hok := mm_okn hok c6
                refine a_go (by decide) (v_aload_n d_MO_slot_127 rfl ?_)
                refine a_go (by decide) (v_getR d_MO_slot_128 rfl rfl rfl ?_)
                refine a_go (by decide) (v_iload_n d_MO_slot_131 rfl ?_)
                refine a_go (by decide) (v_bipush d_MO_slot_132 kb_12 ?_)
                refine a_go (by decide) (v_iadd d_MO_slot_134 ?_)
                have o2 := And.left hok
                replace hok := And.right hok
                refine a_go (by decide) (v_iaload d_MO_slot_135 (by decide) rfl o2 ?_)
                refine a_go (by decide) (v_ireturn d_MO_slot_136 rfl rfl ?_)
                exact mm_fiV hk (mm_ifn c1 (mm_ifn c2 (mm_ifp c3 (mm_ifn c4 (mm_ifn c5 (mm_ifn c6 rfl))))))
              · skip
                replace hok := mm_okp hok c6
                refine a_go (by decide) (v_aload_n d_MO_slot_110 rfl ?_)
                refine a_go (by decide) (v_aload_n d_MO_slot_111 rfl ?_)
                refine a_go (by decide) (v_getR d_MO_slot_112 rfl rfl rfl ?_)
                refine a_go (by decide) (v_iload_n d_MO_slot_115 rfl ?_)
                refine a_go (by decide) (v_bipush d_MO_slot_116 kb_8 ?_)
                refine a_go (by decide) (v_iadd d_MO_slot_118 ?_)
                refine a_go (by decide) (v_iconst d_MO_slot_119 ki_4 ?_)
                refine a_go (by decide) (v_callV d_MO_slot_120 rfl (mm_spl 4 rfl) rfl (Nat.le_of_ble_eq_true rfl) rfl ?_)
                have o3 := And.left hok
                replace hok := And.right hok
                refine (i_m_read rfl o3 ?_)
                refine a_go (by decide) (v_l2i d_MO_slot_123 ?_)
                refine a_go (by decide) (v_goto d_MO_slot_124 (t := 136) (by decide) ?_)
                refine a_go (by decide) (v_ireturn d_MO_slot_136 rfl rfl ?_)
                exact mm_fiV hk (mm_ifn c1 (mm_ifn c2 (mm_ifp c3 (mm_ifn c4 (mm_ifn c5 (mm_ifp c6 rfl))))))
            · skip
              replace hok := mm_okp hok c5
              refine a_go (by decide) (v_aload_n d_MO_slot_89 rfl ?_)
              refine a_go (by decide) (v_aload_n d_MO_slot_90 rfl ?_)
              refine a_go (by decide) (v_getR d_MO_slot_91 rfl rfl rfl ?_)
              refine a_go (by decide) (v_iload_n d_MO_slot_94 rfl ?_)
              refine a_go (by decide) (v_iconst d_MO_slot_95 ki_4 ?_)
              refine a_go (by decide) (v_iadd d_MO_slot_96 ?_)
              refine a_go (by decide) (v_iconst d_MO_slot_97 ki_4 ?_)
              refine a_go (by decide) (v_callV d_MO_slot_98 rfl (mm_spl 4 rfl) rfl (Nat.le_of_ble_eq_true rfl) rfl ?_)
              have o4 := And.left hok
              replace hok := And.right hok
              refine (i_m_read rfl o4 ?_)
              refine a_go (by decide) (v_l2i d_MO_slot_101 ?_)
              refine a_go (by decide) (v_goto d_MO_slot_102 (t := 136) (by decide) ?_)
              refine a_go (by decide) (v_ireturn d_MO_slot_136 rfl rfl ?_)
              exact mm_fiV hk (mm_ifn c1 (mm_ifn c2 (mm_ifp c3 (mm_ifn c4 (mm_ifp c5 rfl)))))
          · skip
            replace hok := mm_okp hok c4
            refine a_go (by decide) (v_iconst d_MO_slot_80 ki_0 ?_)
            refine a_go (by decide) (v_goto d_MO_slot_81 (t := 136) (by decide) ?_)
            refine a_go (by decide) (v_ireturn d_MO_slot_136 rfl rfl ?_)
            exact mm_fiV hk (mm_ifn c1 (mm_ifn c2 (mm_ifp c3 (mm_ifp c4 rfl))))
        · skip
          replace hok := mm_okn hok c3
          refine a_go (by decide) (v_iload_n d_MO_slot_49 rfl ?_)
          refine a_go (by decide) (v_if_ne d_MO_slot_50 (t := 64) (by decide) (fun c7 => ?_) (fun c7 => ?_))
          · skip
            replace hok := mm_okn hok c7
            refine a_go (by decide) (v_iload d_MO_slot_64 rfl ?_)
            refine a_go (by decide) (v_if_eq d_MO_slot_66 (t := 73) (by decide) (fun c8 => ?_) (fun c8 => ?_))
            · skip
              replace hok := mm_okp hok c8
              refine a_go (by decide) (v_iconst d_MO_slot_73 ki_0 ?_)
              refine a_go (by decide) (v_ireturn d_MO_slot_74 rfl rfl ?_)
              exact mm_fiV hk (mm_ifn c1 (mm_ifn c2 (mm_ifn c3 (mm_ifn c7 (mm_ifp c8 rfl)))))
            · skip
              replace hok := mm_okn hok c8
              refine a_go (by decide) (v_iconst d_MO_slot_69 ki_1 ?_)
              refine a_go (by decide) (v_goto d_MO_slot_70 (t := 74) (by decide) ?_)
              refine a_go (by decide) (v_ireturn d_MO_slot_74 rfl rfl ?_)
              exact mm_fiV hk (mm_ifn c1 (mm_ifn c2 (mm_ifn c3 (mm_ifn c7 (mm_ifn c8 rfl)))))
          · skip
            replace hok := mm_okp hok c7
            refine a_go (by decide) (v_aload_n d_MO_slot_53 rfl ?_)
            refine a_go (by decide) (v_iload_n d_MO_slot_54 rfl ?_)
            refine a_go (by decide) (v_callV d_MO_slot_55 rfl (mm_spl 2 rfl) rfl (Nat.le_of_ble_eq_true rfl) rfl ?_)
            have o5 := And.left hok
            replace hok := And.right hok
            refine (i_m_isGood o5 ?_)
            refine a_go (by decide) (v_if_eq d_MO_slot_58 (t := 73) (by decide) (fun c9 => ?_) (fun c9 => ?_))
            · skip
              replace hok := mm_okp hok c9
              refine a_go (by decide) (v_iconst d_MO_slot_73 ki_0 ?_)
              refine a_go (by decide) (v_ireturn d_MO_slot_74 rfl rfl ?_)
              exact mm_fiV hk (mm_ifn c1 (mm_ifn c2 (mm_ifn c3 (mm_ifp c7 (mm_ifp c9 rfl)))))
            · skip
              replace hok := mm_okn hok c9
              refine a_go (by decide) (v_goto d_MO_slot_61 (t := 69) (by decide) ?_)
              refine a_go (by decide) (v_iconst d_MO_slot_69 ki_1 ?_)
              refine a_go (by decide) (v_goto d_MO_slot_70 (t := 74) (by decide) ?_)
              refine a_go (by decide) (v_ireturn d_MO_slot_74 rfl rfl ?_)
              exact mm_fiV hk (mm_ifn c1 (mm_ifn c2 (mm_ifn c3 (mm_ifp c7 (mm_ifn c9 rfl)))))
      · skip
        replace hok := mm_okp hok c2
        refine a_go (by decide) (v_bipush d_MO_slot_25 kb_m102 ?_)
        refine a_go (by decide) (v_ireturn d_MO_slot_27 rfl rfl ?_)
        exact mm_fiV hk (mm_ifn c1 (mm_ifp c2 rfl))
    · skip
      replace hok := mm_okp hok c1
      refine a_go (by decide) (v_bipush d_MO_slot_10 kb_m101 ?_)
      refine a_go (by decide) (v_ireturn d_MO_slot_12 rfl rfl ?_)
      exact mm_fiV hk (mm_ifp c1 rfl)
  · intro as x K _ k pc lv x' h
    cases h
-- TwoSlotsModel.record(I)I
def e_m_record (v0 : Int32) (x : mm_S) : Int32 :=
  if (e_m_in (Int32.toInt64 v0) (0 : Int64) (7 : Int64) x) = (0 : Int32) then
    (-102 : Int32)
  else
    let y1 := e_m_newest x
    if y1 = (-1 : Int32) then
      (-1 : Int32)
    else
      if v0 = (0 : Int32) then
        Int64.toInt32 (e_m_read 4096 10 y1 (4 : Int32) x)
      else
        if v0 = (1 : Int32) then
          x.2.2 10 (Int32.toNatClampNeg (y1 + (4 : Int32)))
        else
          if v0 = (2 : Int32) then
            if (x.2.2 10 (Int32.toNatClampNeg (y1 + (5 : Int32)))) = (255 : Int32) then
              (-1 : Int32)
            else
              x.2.2 10 (Int32.toNatClampNeg (y1 + (5 : Int32)))
          else
            if v0 = (3 : Int32) then
              x.2.2 10 (Int32.toNatClampNeg (y1 + (6 : Int32)))
            else
              if v0 = (4 : Int32) then
                x.2.2 10 (Int32.toNatClampNeg (y1 + (7 : Int32)))
              else
                if v0 = (5 : Int32) then
                  Int64.toInt32 (e_m_read 4096 10 (y1 + (8 : Int32)) (4 : Int32) x)
                else
                  if v0 = (6 : Int32) then
                    y1 / (64 : Int32)
                  else
                    (y1 - y1 / (64 : Int32) * (64 : Int32)) / (16 : Int32)
def ok_m_record (v0 : Int32) (x : mm_S) : Prop := if (e_m_in (Int32.toInt64 v0) (0 : Int64) (7 : Int64) x) = (0 : Int32) then (True) else ((ok_m_newest  x) ∧ (let y1 := e_m_newest x; if y1 = (-1 : Int32) then (True) else (if v0 = (0 : Int32) then ((ok_m_read 4096 10 y1 (4 : Int32) x) ∧ (True)) else (if v0 = (1 : Int32) then ((vp_in (y1 + (4 : Int32)) 4096) ∧ (True)) else (if v0 = (2 : Int32) then ((vp_in (y1 + (5 : Int32)) 4096) ∧ (if (x.2.2 10 (Int32.toNatClampNeg (y1 + (5 : Int32)))) = (255 : Int32) then (True) else ((vp_in (y1 + (5 : Int32)) 4096) ∧ (True)))) else (if v0 = (3 : Int32) then ((vp_in (y1 + (6 : Int32)) 4096) ∧ (True)) else (if v0 = (4 : Int32) then ((vp_in (y1 + (7 : Int32)) 4096) ∧ (True)) else (if v0 = (5 : Int32) then ((ok_m_read 4096 10 (y1 + (8 : Int32)) (4 : Int32) x) ∧ (True)) else (if v0 = (6 : Int32) then (True) else (True))))))))))
def S_m_record : mm_P := fun as x K => ∃ (v0 : Int32), as = [.ref 11, .int v0] ∧ (ok_m_record v0 x) ∧ K (some (.int (e_m_record v0 x))) x
theorem i_m_record {v0 : Int32} {x : mm_S} {K : mm_K} (hpre : (ok_m_record v0 x)) (hk : K (some (.int (e_m_record v0 x))) x) : S_m_record [.ref 11, .int v0] x K := ⟨_, rfl, hpre, hk⟩
def G_m_record : mm_G := (FT_MO, CI_MO, CJ_MO, mm_tb [(76, 3, S_m_in)], mm_tb [(80, 1, 5, S_m_newest), (68, 4, 5, S_m_read)], none)
def rm_m_record : Room := { frames := 2, cells := 0, slots := 0, locals := 49 }
set_option maxHeartbeats 40000000 in
set_option maxRecDepth 10000 in
theorem c_m_record (l : Launch) : mm_Con l NW CL TB LL y_MO_record b_MO_record 3 (some .int) rm_m_record S_m_record := by
  refine mm_con G_m_record [] (fun _ _ _ _ _ _ _ => False) (by decide +kernel) tb_good LL_u nw_nest ?_ rfl ft_MO ci_MO cj_MO ?_ ?_ ?_ ?_
  · rintro as x K ⟨v0, rfl, -⟩
    exact Nat.le_of_ble_eq_true rfl
  · exact mm_tb_e (List.forall_mem_cons.mpr ⟨mm_cst_i (c_m_in l) (mm_cb_i rfl rfl (by decide) (by decide) tc_MO_in ti_MO ⟨by decide, by decide, by decide +kernel⟩ (Or.inl tl_MO_76)) ts_MO_in, fun _ h => absurd h List.not_mem_nil⟩)
  · exact mm_tb_e (List.forall_mem_cons.mpr ⟨mm_cvt_i (c_m_newest l) (mm_cb_i rfl rfl (by decide) (by decide) tc_MO_newest ti_MO ⟨by decide, by decide, by decide +kernel⟩ (Or.inl tl_MO_80)) rfl tv_MO_newest tx_MO_newest, List.forall_mem_cons.mpr ⟨mm_cvt_i (c_m_read l) (mm_cb_i rfl rfl (by decide) (by decide) tc_MO_read ti_MO ⟨by decide, by decide, by decide +kernel⟩ (Or.inl tl_MO_68)) rfl tv_MO_read tx_MO_read, fun _ h => absurd h List.not_mem_nil⟩⟩)
  · rintro as x K ⟨v0, rfl, hok, hk⟩
    refine ⟨400, ?_⟩
    refine v_iload_n d_MO_record_0 rfl ?_
    refine a_go (by decide) (v_i2l d_MO_record_1 ?_)
    refine a_go (by decide) (v_lconst d_MO_record_2 kl_0 ?_)
    refine a_go (by decide) (v_ldc2 d_MO_record_3 rfl ?_)
    refine a_go (by decide) (v_callS d_MO_record_6 rfl (mm_spl 3 rfl) rfl (Nat.le_of_ble_eq_true rfl) ?_)
    refine (i_m_in ?_)
    refine a_go (by decide) (v_if_ne d_MO_record_9 (t := 15) (by decide) (fun c1 => ?_) (fun c1 => ?_))
    · skip
      replace hok := mm_okn hok c1
      refine a_go (by decide) (v_aload_n d_MO_record_15 rfl ?_)
      refine a_go (by decide) (v_callV d_MO_record_16 rfl (mm_spl 1 rfl) rfl (Nat.le_of_ble_eq_true rfl) rfl ?_)
      have o1 := And.left hok
      replace hok := And.right hok
      refine (i_m_newest o1 ?_)
      refine a_go (by decide) (v_istore_n d_MO_record_19 (by decide) ?_)
      refine a_go (by decide) (v_iload_n d_MO_record_20 rfl ?_)
      refine a_go (by decide) (v_iconst d_MO_record_21 ki_m1 ?_)
      refine a_go (by decide) (v_icmp_ne d_MO_record_22 (t := 27) (by decide) (fun c2 => ?_) (fun c2 => ?_))
      · skip
        replace hok := mm_okn hok c2
        refine a_go (by decide) (v_iload_n d_MO_record_27 rfl ?_)
        refine a_go (by decide) (v_sw d_MO_record_28 (by decide) (by decide) (by decide) (by decide) ?_)
        refine sw_c (w := (0 : Int32)) (t := 72) (by decide) (by decide) (fun c3 => ?_) (fun c3 => ?_)
        · skip
          replace hok := mm_okp hok c3
          refine a_go (by decide) (v_aload_n d_MO_record_72 rfl ?_)
          refine a_go (by decide) (v_aload_n d_MO_record_73 rfl ?_)
          refine a_go (by decide) (v_getR d_MO_record_74 rfl rfl rfl ?_)
          refine a_go (by decide) (v_iload_n d_MO_record_77 rfl ?_)
          refine a_go (by decide) (v_iconst d_MO_record_78 ki_4 ?_)
          refine a_go (by decide) (v_callV d_MO_record_79 rfl (mm_spl 4 rfl) rfl (Nat.le_of_ble_eq_true rfl) rfl ?_)
          have o2 := And.left hok
          replace hok := And.right hok
          refine (i_m_read rfl o2 ?_)
          refine a_go (by decide) (v_l2i d_MO_record_82 ?_)
          refine a_go (by decide) (v_ireturn d_MO_record_83 rfl rfl ?_)
          exact mm_fiV hk (mm_ifn c1 (mm_ifn c2 (mm_ifp c3 rfl)))
        replace hok := mm_okn hok c3
        refine sw_c (w := (1 : Int32)) (t := 84) (by decide) (by decide) (fun c4 => ?_) (fun c4 => ?_)
        · skip
          replace hok := mm_okp hok c4
          refine a_go (by decide) (v_aload_n d_MO_record_84 rfl ?_)
          refine a_go (by decide) (v_getR d_MO_record_85 rfl rfl rfl ?_)
          refine a_go (by decide) (v_iload_n d_MO_record_88 rfl ?_)
          refine a_go (by decide) (v_iconst d_MO_record_89 ki_4 ?_)
          refine a_go (by decide) (v_iadd d_MO_record_90 ?_)
          have o3 := And.left hok
          replace hok := And.right hok
          refine a_go (by decide) (v_iaload d_MO_record_91 (by decide) rfl o3 ?_)
          refine a_go (by decide) (v_ireturn d_MO_record_92 rfl rfl ?_)
          exact mm_fiV hk (mm_ifn c1 (mm_ifn c2 (mm_ifn c3 (mm_ifp c4 rfl))))
        replace hok := mm_okn hok c4
        refine sw_c (w := (2 : Int32)) (t := 93) (by decide) (by decide) (fun c5 => ?_) (fun c5 => ?_)
        · skip
          replace hok := mm_okp hok c5
          refine a_go (by decide) (v_aload_n d_MO_record_93 rfl ?_)
          refine a_go (by decide) (v_getR d_MO_record_94 rfl rfl rfl ?_)
          refine a_go (by decide) (v_iload_n d_MO_record_97 rfl ?_)
          refine a_go (by decide) (v_iconst d_MO_record_98 ki_5 ?_)
          refine a_go (by decide) (v_iadd d_MO_record_99 ?_)
          have o4 := And.left hok
          replace hok := And.right hok
          refine a_go (by decide) (v_iaload d_MO_record_100 (by decide) rfl o4 ?_)
          refine a_go (by decide) (v_sipush d_MO_record_101 ks_255 ?_)
          refine a_go (by decide) (v_icmp_ne d_MO_record_104 (t := 111) (by decide) (fun c6 => ?_) (fun c6 => ?_))
          · skip
            replace hok := mm_okn hok c6
            refine a_go (by decide) (v_aload_n d_MO_record_111 rfl ?_)
            refine a_go (by decide) (v_getR d_MO_record_112 rfl rfl rfl ?_)
            refine a_go (by decide) (v_iload_n d_MO_record_115 rfl ?_)
            refine a_go (by decide) (v_iconst d_MO_record_116 ki_5 ?_)
            refine a_go (by decide) (v_iadd d_MO_record_117 ?_)
            have o5 := And.left hok
            replace hok := And.right hok
            refine a_go (by decide) (v_iaload d_MO_record_118 (by decide) rfl o5 ?_)
            refine a_go (by decide) (v_ireturn d_MO_record_119 rfl rfl ?_)
            exact mm_fiV hk (mm_ifn c1 (mm_ifn c2 (mm_ifn c3 (mm_ifn c4 (mm_ifp c5 (mm_ifn c6 rfl))))))
          · skip
            replace hok := mm_okp hok c6
            refine a_go (by decide) (v_iconst d_MO_record_107 ki_m1 ?_)
            refine a_go (by decide) (v_goto d_MO_record_108 (t := 119) (by decide) ?_)
            refine a_go (by decide) (v_ireturn d_MO_record_119 rfl rfl ?_)
            exact mm_fiV hk (mm_ifn c1 (mm_ifn c2 (mm_ifn c3 (mm_ifn c4 (mm_ifp c5 (mm_ifp c6 rfl))))))
        replace hok := mm_okn hok c5
        refine sw_c (w := (3 : Int32)) (t := 120) (by decide) (by decide) (fun c7 => ?_) (fun c7 => ?_)
        · skip
          replace hok := mm_okp hok c7
          refine a_go (by decide) (v_aload_n d_MO_record_120 rfl ?_)
          refine a_go (by decide) (v_getR d_MO_record_121 rfl rfl rfl ?_)
          refine a_go (by decide) (v_iload_n d_MO_record_124 rfl ?_)
          refine a_go (by decide) (v_bipush d_MO_record_125 kb_6 ?_)
          refine a_go (by decide) (v_iadd d_MO_record_127 ?_)
          have o6 := And.left hok
          replace hok := And.right hok
          refine a_go (by decide) (v_iaload d_MO_record_128 (by decide) rfl o6 ?_)
          refine a_go (by decide) (v_ireturn d_MO_record_129 rfl rfl ?_)
          exact mm_fiV hk (mm_ifn c1 (mm_ifn c2 (mm_ifn c3 (mm_ifn c4 (mm_ifn c5 (mm_ifp c7 rfl))))))
        replace hok := mm_okn hok c7
        refine sw_c (w := (4 : Int32)) (t := 130) (by decide) (by decide) (fun c8 => ?_) (fun c8 => ?_)
        · skip
          replace hok := mm_okp hok c8
          refine a_go (by decide) (v_aload_n d_MO_record_130 rfl ?_)
          refine a_go (by decide) (v_getR d_MO_record_131 rfl rfl rfl ?_)
          refine a_go (by decide) (v_iload_n d_MO_record_134 rfl ?_)
          refine a_go (by decide) (v_bipush d_MO_record_135 kb_7 ?_)
          refine a_go (by decide) (v_iadd d_MO_record_137 ?_)
          have o7 := And.left hok
          replace hok := And.right hok
          refine a_go (by decide) (v_iaload d_MO_record_138 (by decide) rfl o7 ?_)
          refine a_go (by decide) (v_ireturn d_MO_record_139 rfl rfl ?_)
          exact mm_fiV hk (mm_ifn c1 (mm_ifn c2 (mm_ifn c3 (mm_ifn c4 (mm_ifn c5 (mm_ifn c7 (mm_ifp c8 rfl)))))))
        replace hok := mm_okn hok c8
        refine sw_c (w := (5 : Int32)) (t := 140) (by decide) (by decide) (fun c9 => ?_) (fun c9 => ?_)
        · skip
          replace hok := mm_okp hok c9
          refine a_go (by decide) (v_aload_n d_MO_record_140 rfl ?_)
          refine a_go (by decide) (v_aload_n d_MO_record_141 rfl ?_)
          refine a_go (by decide) (v_getR d_MO_record_142 rfl rfl rfl ?_)
          refine a_go (by decide) (v_iload_n d_MO_record_145 rfl ?_)
          refine a_go (by decide) (v_bipush d_MO_record_146 kb_8 ?_)
          refine a_go (by decide) (v_iadd d_MO_record_148 ?_)
          refine a_go (by decide) (v_iconst d_MO_record_149 ki_4 ?_)
          refine a_go (by decide) (v_callV d_MO_record_150 rfl (mm_spl 4 rfl) rfl (Nat.le_of_ble_eq_true rfl) rfl ?_)
          have o8 := And.left hok
          replace hok := And.right hok
          refine (i_m_read rfl o8 ?_)
          refine a_go (by decide) (v_l2i d_MO_record_153 ?_)
          refine a_go (by decide) (v_ireturn d_MO_record_154 rfl rfl ?_)
          exact mm_fiV hk (mm_ifn c1 (mm_ifn c2 (mm_ifn c3 (mm_ifn c4 (mm_ifn c5 (mm_ifn c7 (mm_ifn c8 (mm_ifp c9 rfl))))))))
        replace hok := mm_okn hok c9
        refine sw_c (w := (6 : Int32)) (t := 155) (by decide) (by decide) (fun c10 => ?_) (fun c10 => ?_)
        · skip
          replace hok := mm_okp hok c10
          refine a_go (by decide) (v_iload_n d_MO_record_155 rfl ?_)
          refine a_go (by decide) (v_bipush d_MO_record_156 kb_64 ?_)
          refine a_go (by decide) (v_idiv d_MO_record_158 (by decide) ?_)
          refine a_go (by decide) (v_ireturn d_MO_record_159 rfl rfl ?_)
          exact mm_fiV hk (mm_ifn c1 (mm_ifn c2 (mm_ifn c3 (mm_ifn c4 (mm_ifn c5 (mm_ifn c7 (mm_ifn c8 (mm_ifn c9 (mm_ifp c10 rfl)))))))))
        replace hok := mm_okn hok c10
        refine sw_n (t := 160) (by decide) ?_
        refine a_go (by decide) (v_iload_n d_MO_record_160 rfl ?_)
        refine a_go (by decide) (v_bipush d_MO_record_161 kb_64 ?_)
        refine a_go (by decide) (v_irem d_MO_record_163 (by decide) ?_)
        refine a_go (by decide) (v_bipush d_MO_record_164 kb_16 ?_)
        refine a_go (by decide) (v_idiv d_MO_record_166 (by decide) ?_)
        refine a_go (by decide) (v_ireturn d_MO_record_167 rfl rfl ?_)
        exact mm_fiV hk (mm_ifn c1 (mm_ifn c2 (mm_ifn c3 (mm_ifn c4 (mm_ifn c5 (mm_ifn c7 (mm_ifn c8 (mm_ifn c9 (mm_ifn c10 rfl)))))))))
      · skip
        replace hok := mm_okp hok c2
        refine a_go (by decide) (v_iconst d_MO_record_25 ki_m1 ?_)
        refine a_go (by decide) (v_ireturn d_MO_record_26 rfl rfl ?_)
        exact mm_fiV hk (mm_ifn c1 (mm_ifp c2 rfl))
    · skip
      replace hok := mm_okp hok c1
      refine a_go (by decide) (v_bipush d_MO_record_12 kb_m102 ?_)
      refine a_go (by decide) (v_ireturn d_MO_record_14 rfl rfl ?_)
      exact mm_fiV hk (mm_ifp c1 rfl)
  · intro as x K _ k pc lv x' h
    cases h
-- TwoSlotsModel.count(I)I
def e_m_count (v0 : Int32) (x : mm_S) : Int32 :=
  if (e_m_in (Int32.toInt64 v0) (0 : Int64) (6 : Int64) x) = (0 : Int32) then
    if v0 = (7 : Int32) then
      x.1 105
    else
      if v0 = (8 : Int32) then
        e_m_awaited x
      else
        (-102 : Int32)
  else
    x.2.2 13 (Int32.toNatClampNeg v0)
def ok_m_count (v0 : Int32) (x : mm_S) : Prop := if (e_m_in (Int32.toInt64 v0) (0 : Int64) (6 : Int64) x) = (0 : Int32) then (if v0 = (7 : Int32) then (True) else (if v0 = (8 : Int32) then ((ok_m_awaited  x) ∧ (True)) else (True))) else ((vp_in v0 7) ∧ (True))
def S_m_count : mm_P := fun as x K => ∃ (v0 : Int32), as = [.ref 11, .int v0] ∧ (ok_m_count v0 x) ∧ K (some (.int (e_m_count v0 x))) x
theorem i_m_count {v0 : Int32} {x : mm_S} {K : mm_K} (hpre : (ok_m_count v0 x)) (hk : K (some (.int (e_m_count v0 x))) x) : S_m_count [.ref 11, .int v0] x K := ⟨_, rfl, hpre, hk⟩
def G_m_count : mm_G := (FT_MO, CI_MO, CJ_MO, mm_tb [(76, 3, S_m_in)], mm_tb [(162, 1, 5, S_m_awaited)], none)
def rm_m_count : Room := { frames := 2, cells := 0, slots := 0, locals := 46 }
set_option maxHeartbeats 40000000 in
set_option maxRecDepth 10000 in
theorem c_m_count (l : Launch) : mm_Con l NW CL TB LL y_MO_count b_MO_count 2 (some .int) rm_m_count S_m_count := by
  refine mm_con G_m_count [] (fun _ _ _ _ _ _ _ => False) (by decide +kernel) tb_good LL_u nw_nest ?_ rfl ft_MO ci_MO cj_MO ?_ ?_ ?_ ?_
  · rintro as x K ⟨v0, rfl, -⟩
    exact Nat.le_of_ble_eq_true rfl
  · exact mm_tb_e (List.forall_mem_cons.mpr ⟨mm_cst_i (c_m_in l) (mm_cb_i rfl rfl (by decide) (by decide) tc_MO_in ti_MO ⟨by decide, by decide, by decide +kernel⟩ (Or.inl tl_MO_76)) ts_MO_in, fun _ h => absurd h List.not_mem_nil⟩)
  · exact mm_tb_e (List.forall_mem_cons.mpr ⟨mm_cvt_i (c_m_awaited l) (mm_cb_i rfl rfl (by decide) (by decide) tc_MO_awaited ti_MO ⟨by decide, by decide, by decide +kernel⟩ (Or.inl tl_MO_162)) rfl tv_MO_awaited tx_MO_awaited, fun _ h => absurd h List.not_mem_nil⟩)
  · rintro as x K ⟨v0, rfl, hok, hk⟩
    refine ⟨400, ?_⟩
    refine v_iload_n d_MO_count_0 rfl ?_
    refine a_go (by decide) (v_i2l d_MO_count_1 ?_)
    refine a_go (by decide) (v_lconst d_MO_count_2 kl_0 ?_)
    refine a_go (by decide) (v_ldc2 d_MO_count_3 rfl ?_)
    refine a_go (by decide) (v_callS d_MO_count_6 rfl (mm_spl 3 rfl) rfl (Nat.le_of_ble_eq_true rfl) ?_)
    refine (i_m_in ?_)
    refine a_go (by decide) (v_if_eq d_MO_count_9 (t := 21) (by decide) (fun c1 => ?_) (fun c1 => ?_))
    · skip
      replace hok := mm_okp hok c1
      refine a_go (by decide) (v_iload_n d_MO_count_21 rfl ?_)
      refine a_go (by decide) (v_bipush d_MO_count_22 kb_7 ?_)
      refine a_go (by decide) (v_icmp_ne d_MO_count_24 (t := 34) (by decide) (fun c2 => ?_) (fun c2 => ?_))
      · skip
        replace hok := mm_okn hok c2
        refine a_go (by decide) (v_iload_n d_MO_count_34 rfl ?_)
        refine a_go (by decide) (v_bipush d_MO_count_35 kb_8 ?_)
        refine a_go (by decide) (v_icmp_ne d_MO_count_37 (t := 47) (by decide) (fun c3 => ?_) (fun c3 => ?_))
        · skip
          replace hok := mm_okn hok c3
          refine a_go (by decide) (v_bipush d_MO_count_47 kb_m102 ?_)
          refine a_go (by decide) (v_ireturn d_MO_count_49 rfl rfl ?_)
          exact mm_fiV hk (mm_ifp c1 (mm_ifn c2 (mm_ifn c3 rfl)))
        · skip
          replace hok := mm_okp hok c3
          refine a_go (by decide) (v_aload_n d_MO_count_40 rfl ?_)
          refine a_go (by decide) (v_callV d_MO_count_41 rfl (mm_spl 1 rfl) rfl (Nat.le_of_ble_eq_true rfl) rfl ?_)
          have o1 := And.left hok
          replace hok := And.right hok
          refine (i_m_awaited o1 ?_)
          refine a_go (by decide) (v_goto d_MO_count_44 (t := 49) (by decide) ?_)
          refine a_go (by decide) (v_ireturn d_MO_count_49 rfl rfl ?_)
          exact mm_fiV hk (mm_ifp c1 (mm_ifn c2 (mm_ifp c3 rfl)))
      · skip
        replace hok := mm_okp hok c2
        refine a_go (by decide) (v_aload_n d_MO_count_27 rfl ?_)
        refine a_go (by decide) (v_getI d_MO_count_28 rfl rfl rfl ?_)
        refine a_go (by decide) (v_goto d_MO_count_31 (t := 49) (by decide) ?_)
        refine a_go (by decide) (v_ireturn d_MO_count_49 rfl rfl ?_)
        exact mm_fiV hk (mm_ifp c1 (mm_ifp c2 rfl))
    · skip
      replace hok := mm_okn hok c1
      refine a_go (by decide) (v_aload_n d_MO_count_12 rfl ?_)
      refine a_go (by decide) (v_getR d_MO_count_13 rfl rfl rfl ?_)
      refine a_go (by decide) (v_iload_n d_MO_count_16 rfl ?_)
      have o2 := And.left hok
      replace hok := And.right hok
      refine a_go (by decide) (v_iaload d_MO_count_17 (by decide) rfl o2 ?_)
      refine a_go (by decide) (v_goto d_MO_count_18 (t := 49) (by decide) ?_)
      refine a_go (by decide) (v_ireturn d_MO_count_49 rfl rfl ?_)
      exact mm_fiV hk (mm_ifn c1 rfl)
  · intro as x K _ k pc lv x' h
    cases h
