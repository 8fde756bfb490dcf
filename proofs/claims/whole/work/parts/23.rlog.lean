-- TwoSlotsModel.isGood(I)Z
def e_m_isGood (v0 : Int32) (x : mm_S) : Int32 :=
  if (e_m_in (Int32.toInt64 v0) (0 : Int64) (1 : Int64) x) = (0 : Int32) then
    (0 : Int32)
  else
    let y1 := e_m_headOf v0 x
    if (e_m_isRight 4096 10 y1 x) = (0 : Int32) then
      (0 : Int32)
    else
      if (lg_cmp (e_m_read 4096 10 (y1 + (4 : Int32)) (4 : Int32) x) (e_m_counter x)) < (0 : Int32) then
        (0 : Int32)
      else
        if (lg_cmp (e_m_bodyOf v0 4096 10 y1 x) (e_m_read 4096 10 (y1 + (20 : Int32)) (8 : Int32) x)) = (0 : Int32) then
          (1 : Int32)
        else
          (0 : Int32)
def ok_m_isGood (v0 : Int32) (x : mm_S) : Prop := if (e_m_in (Int32.toInt64 v0) (0 : Int64) (1 : Int64) x) = (0 : Int32) then (True) else (let y1 := e_m_headOf v0 x; (ok_m_isRight 4096 10 y1 x) ∧ (if (e_m_isRight 4096 10 y1 x) = (0 : Int32) then (True) else ((ok_m_read 4096 10 (y1 + (4 : Int32)) (4 : Int32) x) ∧ ((ok_m_counter  x) ∧ (if (lg_cmp (e_m_read 4096 10 (y1 + (4 : Int32)) (4 : Int32) x) (e_m_counter x)) < (0 : Int32) then (True) else ((ok_m_bodyOf v0 4096 10 y1 x) ∧ ((ok_m_read 4096 10 (y1 + (20 : Int32)) (8 : Int32) x) ∧ (if (lg_cmp (e_m_bodyOf v0 4096 10 y1 x) (e_m_read 4096 10 (y1 + (20 : Int32)) (8 : Int32) x)) = (0 : Int32) then (True) else (True)))))))))
def S_m_isGood : mm_P := fun as x K => ∃ (v0 : Int32), as = [.ref 11, .int v0] ∧ (ok_m_isGood v0 x) ∧ K (some (.int (e_m_isGood v0 x))) x
theorem i_m_isGood {v0 : Int32} {x : mm_S} {K : mm_K} (hpre : (ok_m_isGood v0 x)) (hk : K (some (.int (e_m_isGood v0 x))) x) : S_m_isGood [.ref 11, .int v0] x K := ⟨_, rfl, hpre, hk⟩
def G_m_isGood : mm_G := (FT_MO, CI_MO, CJ_MO, mm_tb [(76, 3, S_m_in), (84, 1, S_m_headOf)], mm_tb [(88, 3, 5, S_m_isRight), (68, 4, 5, S_m_read), (92, 1, 5, S_m_counter), (96, 4, 5, S_m_bodyOf)], none)
def rm_m_isGood : Room := { frames := 3, cells := 0, slots := 0, locals := 76 }
set_option maxHeartbeats 40000000 in
set_option maxRecDepth 10000 in
theorem c_m_isGood (l : Launch) : mm_Con l NW CL TB LL y_MO_isGood b_MO_isGood 3 (some .boolean) rm_m_isGood S_m_isGood := by
  refine mm_con G_m_isGood [] (fun _ _ _ _ _ _ _ => False) (by decide +kernel) tb_good LL_u nw_nest ?_ rfl ft_MO ci_MO cj_MO ?_ ?_ ?_ ?_
  · rintro as x K ⟨v0, rfl, -⟩
    exact Nat.le_of_ble_eq_true rfl
  · exact mm_tb_e (List.forall_mem_cons.mpr ⟨mm_cst_i (c_m_in l) (mm_cb_i rfl rfl (by decide) (by decide) tc_MO_in ti_MO ⟨by decide, by decide, by decide +kernel⟩ (Or.inl tl_MO_76)) ts_MO_in, List.forall_mem_cons.mpr ⟨mm_cst_i (c_m_headOf l) (mm_cb_i rfl rfl (by decide) (by decide) tc_MO_headOf ti_MO ⟨by decide, by decide, by decide +kernel⟩ (Or.inl tl_MO_84)) ts_MO_headOf, fun _ h => absurd h List.not_mem_nil⟩⟩)
  · exact mm_tb_e (List.forall_mem_cons.mpr ⟨mm_cvt_i (c_m_isRight l) (mm_cb_i rfl rfl (by decide) (by decide) tc_MO_isRight ti_MO ⟨by decide, by decide, by decide +kernel⟩ (Or.inl tl_MO_88)) rfl tv_MO_isRight tx_MO_isRight, List.forall_mem_cons.mpr ⟨mm_cvt_i (c_m_read l) (mm_cb_i rfl rfl (by decide) (by decide) tc_MO_read ti_MO ⟨by decide, by decide, by decide +kernel⟩ (Or.inl tl_MO_68)) rfl tv_MO_read tx_MO_read, List.forall_mem_cons.mpr ⟨mm_cvt_i (c_m_counter l) (mm_cb_i rfl rfl (by decide) (by decide) tc_MO_counter ti_MO ⟨by decide, by decide, by decide +kernel⟩ (Or.inl tl_MO_92)) rfl tv_MO_counter tx_MO_counter, List.forall_mem_cons.mpr ⟨mm_cvt_i (c_m_bodyOf l) (mm_cb_i rfl rfl (by decide) (by decide) tc_MO_bodyOf ti_MO ⟨by decide, by decide, by decide +kernel⟩ (Or.inl tl_MO_96)) rfl tv_MO_bodyOf tx_MO_bodyOf, fun _ h => absurd h List.not_mem_nil⟩⟩⟩⟩)
  · rintro as x K ⟨v0, rfl, hok, hk⟩
    refine ⟨400, ?_⟩
    refine v_iload_n d_MO_isGood_0 rfl ?_
    refine a_go (by decide) (v_i2l d_MO_isGood_1 ?_)
    refine a_go (by decide) (v_lconst d_MO_isGood_2 kl_0 ?_)
    refine a_go (by decide) (v_lconst d_MO_isGood_3 kl_1 ?_)
    refine a_go (by decide) (v_callS d_MO_isGood_4 rfl (mm_spl 3 rfl) rfl (Nat.le_of_ble_eq_true rfl) ?_)
    refine (i_m_in ?_)
    refine a_go (by decide) (v_if_ne d_MO_isGood_7 (t := 12) (by decide) (fun c1 => ?_) (fun c1 => ?_))
    · skip
      replace hok := mm_okn hok c1
      refine a_go (by decide) (v_iload_n d_MO_isGood_12 rfl ?_)
      refine a_go (by decide) (v_callS d_MO_isGood_13 rfl (mm_spl 1 rfl) rfl (Nat.le_of_ble_eq_true rfl) ?_)
      refine (i_m_headOf ?_)
      refine a_go (by decide) (v_istore_n d_MO_isGood_16 (by decide) ?_)
      refine a_go (by decide) (v_aload_n d_MO_isGood_17 rfl ?_)
      refine a_go (by decide) (v_aload_n d_MO_isGood_18 rfl ?_)
      refine a_go (by decide) (v_getR d_MO_isGood_19 rfl rfl rfl ?_)
      refine a_go (by decide) (v_iload_n d_MO_isGood_22 rfl ?_)
      refine a_go (by decide) (v_callV d_MO_isGood_23 rfl (mm_spl 3 rfl) rfl (Nat.le_of_ble_eq_true rfl) rfl ?_)
      have o1 := And.left hok
      replace hok := And.right hok
      refine (i_m_isRight rfl o1 ?_)
      refine a_go (by decide) (v_if_eq d_MO_isGood_26 (t := 81) (by decide) (fun c2 => ?_) (fun c2 => ?_))
      · skip
        replace hok := mm_okp hok c2
        refine a_go (by decide) (v_iconst d_MO_isGood_81 ki_0 ?_)
        refine a_go (by decide) (v_zreturn d_MO_isGood_82 rfl (by decide) ?_)
        exact mm_fiV hk (mm_ifn c1 (mm_ifp c2 rfl))
      · skip
        replace hok := mm_okn hok c2
        refine a_go (by decide) (v_aload_n d_MO_isGood_29 rfl ?_)
        refine a_go (by decide) (v_aload_n d_MO_isGood_30 rfl ?_)
        refine a_go (by decide) (v_getR d_MO_isGood_31 rfl rfl rfl ?_)
        refine a_go (by decide) (v_iload_n d_MO_isGood_34 rfl ?_)
        refine a_go (by decide) (v_iconst d_MO_isGood_35 ki_4 ?_)
        refine a_go (by decide) (v_iadd d_MO_isGood_36 ?_)
        refine a_go (by decide) (v_iconst d_MO_isGood_37 ki_4 ?_)
        refine a_go (by decide) (v_callV d_MO_isGood_38 rfl (mm_spl 4 rfl) rfl (Nat.le_of_ble_eq_true rfl) rfl ?_)
        have o2 := And.left hok
        replace hok := And.right hok
        refine (i_m_read rfl o2 ?_)
        refine a_go (by decide) (v_aload_n d_MO_isGood_41 rfl ?_)
        refine a_go (by decide) (v_callV d_MO_isGood_42 rfl (mm_spl 1 rfl) rfl (Nat.le_of_ble_eq_true rfl) rfl ?_)
        have o3 := And.left hok
        replace hok := And.right hok
        refine (i_m_counter o3 ?_)
        refine a_go (by decide) (v_lcmp d_MO_isGood_45 ?_)
        refine a_go (by decide) (v_if_lt d_MO_isGood_46 (t := 81) (by decide) (fun c3 => ?_) (fun c3 => ?_))
        · skip
          replace hok := mm_okp hok c3
          refine a_go (by decide) (v_iconst d_MO_isGood_81 ki_0 ?_)
          refine a_go (by decide) (v_zreturn d_MO_isGood_82 rfl (by decide) ?_)
          exact mm_fiV hk (mm_ifn c1 (mm_ifn c2 (mm_ifp c3 rfl)))
        · skip
          replace hok := mm_okn hok c3
          refine a_go (by decide) (v_aload_n d_MO_isGood_49 rfl ?_)
          refine a_go (by decide) (v_iload_n d_MO_isGood_50 rfl ?_)
          refine a_go (by decide) (v_aload_n d_MO_isGood_51 rfl ?_)
          refine a_go (by decide) (v_getR d_MO_isGood_52 rfl rfl rfl ?_)
          refine a_go (by decide) (v_iload_n d_MO_isGood_55 rfl ?_)
          refine a_go (by decide) (v_callV d_MO_isGood_56 rfl (mm_spl 4 rfl) rfl (Nat.le_of_ble_eq_true rfl) rfl ?_)
          have o4 := And.left hok
          replace hok := And.right hok
          refine (i_m_bodyOf rfl o4 ?_)
          refine a_go (by decide) (v_aload_n d_MO_isGood_59 rfl ?_)
          refine a_go (by decide) (v_aload_n d_MO_isGood_60 rfl ?_)
          refine a_go (by decide) (v_getR d_MO_isGood_61 rfl rfl rfl ?_)
          refine a_go (by decide) (v_iload_n d_MO_isGood_64 rfl ?_)
          refine a_go (by decide) (v_bipush d_MO_isGood_65 kb_20 ?_)
          refine a_go (by decide) (v_iadd d_MO_isGood_67 ?_)
          refine a_go (by decide) (v_bipush d_MO_isGood_68 kb_8 ?_)
          refine a_go (by decide) (v_callV d_MO_isGood_70 rfl (mm_spl 4 rfl) rfl (Nat.le_of_ble_eq_true rfl) rfl ?_)
          have o5 := And.left hok
          replace hok := And.right hok
          refine (i_m_read rfl o5 ?_)
          refine a_go (by decide) (v_lcmp d_MO_isGood_73 ?_)
          refine a_go (by decide) (v_if_ne d_MO_isGood_74 (t := 81) (by decide) (fun c4 => ?_) (fun c4 => ?_))
          · skip
            replace hok := mm_okn hok c4
            refine a_go (by decide) (v_iconst d_MO_isGood_81 ki_0 ?_)
            refine a_go (by decide) (v_zreturn d_MO_isGood_82 rfl (by decide) ?_)
            exact mm_fiV hk (mm_ifn c1 (mm_ifn c2 (mm_ifn c3 (mm_ifn c4 rfl))))
          · skip
            replace hok := mm_okp hok c4
            refine a_go (by decide) (v_iconst d_MO_isGood_77 ki_1 ?_)
            refine a_go (by decide) (v_goto d_MO_isGood_78 (t := 82) (by decide) ?_)
            refine a_go (by decide) (v_zreturn d_MO_isGood_82 rfl (by decide) ?_)
            exact mm_fiV hk (mm_ifn c1 (mm_ifn c2 (mm_ifn c3 (mm_ifp c4 rfl))))
    · skip
      replace hok := mm_okp hok c1
      refine a_go (by decide) (v_iconst d_MO_isGood_10 ki_0 ?_)
      refine a_go (by decide) (v_zreturn d_MO_isGood_11 rfl (by decide) ?_)
      exact mm_fiV hk (mm_ifp c1 rfl)
  · intro as x K _ k pc lv x' h
    cases h
-- TwoSlotsModel.lineIs(JIIIIJ)V
def e_m_lineIs (v0 : Int64) (v1 : Int32) (v2 : Int32) (v3 : Int32) (v4 : Int32) (v5 : Int64) (x : mm_S) : mm_S :=
  let x1 := e_m_number 16 15 (0 : Int32) v0 (4 : Int32) x
  let x2 := mm_setA x1 15 (upd (x1.2.2 15) (Int32.toNatClampNeg (4 : Int32)) v1)
  let x3 := mm_setA x2 15 (upd (x2.2.2 15) (Int32.toNatClampNeg (5 : Int32)) v2)
  let x4 := mm_setA x3 15 (upd (x3.2.2 15) (Int32.toNatClampNeg (6 : Int32)) v3)
  let x5 := mm_setA x4 15 (upd (x4.2.2 15) (Int32.toNatClampNeg (7 : Int32)) v4)
  let x6 := e_m_number 16 15 (8 : Int32) v5 (4 : Int32) x5
  let x7 := mm_setA x6 15 (upd (x6.2.2 15) (Int32.toNatClampNeg (12 : Int32)) (0 : Int32))
  let x8 := mm_setA x7 15 (upd (x7.2.2 15) (Int32.toNatClampNeg (13 : Int32)) (0 : Int32))
  let x9 := mm_setA x8 15 (upd (x8.2.2 15) (Int32.toNatClampNeg (14 : Int32)) (0 : Int32))
  let x10 := mm_setA x9 15 (upd (x9.2.2 15) (Int32.toNatClampNeg (15 : Int32)) (90 : Int32))
  x10
def ok_m_lineIs (v0 : Int64) (v1 : Int32) (v2 : Int32) (v3 : Int32) (v4 : Int32) (v5 : Int64) (x : mm_S) : Prop := (ok_m_number 16 15 (0 : Int32) v0 (4 : Int32) x) ∧ (let x1 := e_m_number 16 15 (0 : Int32) v0 (4 : Int32) x; (vp_in (4 : Int32) 16) ∧ (let x2 := mm_setA x1 15 (upd (x1.2.2 15) (Int32.toNatClampNeg (4 : Int32)) v1); (vp_in (5 : Int32) 16) ∧ (let x3 := mm_setA x2 15 (upd (x2.2.2 15) (Int32.toNatClampNeg (5 : Int32)) v2); (vp_in (6 : Int32) 16) ∧ (let x4 := mm_setA x3 15 (upd (x3.2.2 15) (Int32.toNatClampNeg (6 : Int32)) v3); (vp_in (7 : Int32) 16) ∧ (let x5 := mm_setA x4 15 (upd (x4.2.2 15) (Int32.toNatClampNeg (7 : Int32)) v4); (ok_m_number 16 15 (8 : Int32) v5 (4 : Int32) x5) ∧ (let x6 := e_m_number 16 15 (8 : Int32) v5 (4 : Int32) x5; (vp_in (12 : Int32) 16) ∧ (let x7 := mm_setA x6 15 (upd (x6.2.2 15) (Int32.toNatClampNeg (12 : Int32)) (0 : Int32)); (vp_in (13 : Int32) 16) ∧ (let x8 := mm_setA x7 15 (upd (x7.2.2 15) (Int32.toNatClampNeg (13 : Int32)) (0 : Int32)); (vp_in (14 : Int32) 16) ∧ (let x9 := mm_setA x8 15 (upd (x8.2.2 15) (Int32.toNatClampNeg (14 : Int32)) (0 : Int32)); (vp_in (15 : Int32) 16) ∧ (let x10 := mm_setA x9 15 (upd (x9.2.2 15) (Int32.toNatClampNeg (15 : Int32)) (90 : Int32)); True))))))))))
def S_m_lineIs : mm_P := fun as x K => ∃ (v0 : Int64) (v1 : Int32) (v2 : Int32) (v3 : Int32) (v4 : Int32) (v5 : Int64), as = [.ref 11, .long v0, .int v1, .int v2, .int v3, .int v4, .long v5] ∧ (ok_m_lineIs v0 v1 v2 v3 v4 v5 x) ∧ K none (e_m_lineIs v0 v1 v2 v3 v4 v5 x)
theorem i_m_lineIs {v0 : Int64} {v1 : Int32} {v2 : Int32} {v3 : Int32} {v4 : Int32} {v5 : Int64} {x : mm_S} {K : mm_K} (hpre : (ok_m_lineIs v0 v1 v2 v3 v4 v5 x)) (hk : K none (e_m_lineIs v0 v1 v2 v3 v4 v5 x)) : S_m_lineIs [.ref 11, .long v0, .int v1, .int v2, .int v3, .int v4, .long v5] x K := ⟨_, _, _, _, _, _, rfl, hpre, hk⟩
def G_m_lineIs : mm_G := (FT_MO, CI_MO, CJ_MO, mm_tb [], mm_tb [(60, 5, 5, S_m_number)], none)
def rm_m_lineIs : Room := { frames := 1, cells := 0, slots := 0, locals := 26 }
set_option maxHeartbeats 40000000 in
set_option maxRecDepth 10000 in
theorem c_m_lineIs (l : Launch) : mm_Con l NW CL TB LL y_MO_lineIs b_MO_lineIs 9 (none) rm_m_lineIs S_m_lineIs := by
  refine mm_con G_m_lineIs [] (fun _ _ _ _ _ _ _ => False) (by decide +kernel) tb_good LL_u nw_nest ?_ rfl ft_MO ci_MO cj_MO ?_ ?_ ?_ ?_
  · rintro as x K ⟨v0, v1, v2, v3, v4, v5, rfl, -⟩
    exact Nat.le_of_ble_eq_true rfl
  · exact mm_tb_e (fun _ h => absurd h List.not_mem_nil)
  · exact mm_tb_e (List.forall_mem_cons.mpr ⟨mm_cvt_i (c_m_number l) (mm_cb_i rfl rfl (by decide) (by decide) tc_MO_number ti_MO ⟨by decide, by decide, by decide +kernel⟩ (Or.inl tl_MO_60)) rfl tv_MO_number tx_MO_number, fun _ h => absurd h List.not_mem_nil⟩)
  · rintro as x K ⟨v0, v1, v2, v3, v4, v5, rfl, hok, hk⟩
    refine ⟨400, ?_⟩
    refine v_aload_n d_MO_lineIs_0 rfl ?_
    refine a_go (by decide) (v_aload_n d_MO_lineIs_1 rfl ?_)
    refine a_go (by decide) (v_getR d_MO_lineIs_2 rfl rfl rfl ?_)
    refine a_go (by decide) (v_iconst d_MO_lineIs_5 ki_0 ?_)
    refine a_go (by decide) (v_lload_n d_MO_lineIs_6 rfl ?_)
    refine a_go (by decide) (v_iconst d_MO_lineIs_7 ki_4 ?_)
    refine a_go (by decide) (v_callV d_MO_lineIs_8 rfl (mm_spl 5 rfl) rfl (Nat.le_of_ble_eq_true rfl) rfl ?_)
    have o1 := And.left hok
    replace hok := And.right hok
    refine (i_m_number rfl o1 ?_)
    refine a_go (by decide) (v_aload_n d_MO_lineIs_11 rfl ?_)
    refine a_go (by decide) (v_getR d_MO_lineIs_12 rfl rfl rfl ?_)
    refine a_go (by decide) (v_iconst d_MO_lineIs_15 ki_4 ?_)
    refine a_go (by decide) (v_iload_n d_MO_lineIs_16 rfl ?_)
    have o2 := And.left hok
    replace hok := And.right hok
    refine a_go (by decide) (v_iastore d_MO_lineIs_17 rfl o2 ?_)
    refine a_go (by decide) (v_aload_n d_MO_lineIs_18 rfl ?_)
    refine a_go (by decide) (v_getR d_MO_lineIs_19 rfl rfl rfl ?_)
    refine a_go (by decide) (v_iconst d_MO_lineIs_22 ki_5 ?_)
    refine a_go (by decide) (v_iload d_MO_lineIs_23 rfl ?_)
    have o3 := And.left hok
    replace hok := And.right hok
    refine a_go (by decide) (v_iastore d_MO_lineIs_25 rfl o3 ?_)
    refine a_go (by decide) (v_aload_n d_MO_lineIs_26 rfl ?_)
    refine a_go (by decide) (v_getR d_MO_lineIs_27 rfl rfl rfl ?_)
    refine a_go (by decide) (v_bipush d_MO_lineIs_30 kb_6 ?_)
    refine a_go (by decide) (v_iload d_MO_lineIs_32 rfl ?_)
    have o4 := And.left hok
    replace hok := And.right hok
    refine a_go (by decide) (v_iastore d_MO_lineIs_34 rfl o4 ?_)
    refine a_go (by decide) (v_aload_n d_MO_lineIs_35 rfl ?_)
    refine a_go (by decide) (v_getR d_MO_lineIs_36 rfl rfl rfl ?_)
    refine a_go (by decide) (v_bipush d_MO_lineIs_39 kb_7 ?_)
    refine a_go (by decide) (v_iload d_MO_lineIs_41 rfl ?_)
    have o5 := And.left hok
    replace hok := And.right hok
    refine a_go (by decide) (v_iastore d_MO_lineIs_43 rfl o5 ?_)
    refine a_go (by decide) (v_aload_n d_MO_lineIs_44 rfl ?_)
    refine a_go (by decide) (v_aload_n d_MO_lineIs_45 rfl ?_)
    refine a_go (by decide) (v_getR d_MO_lineIs_46 rfl rfl rfl ?_)
    refine a_go (by decide) (v_bipush d_MO_lineIs_49 kb_8 ?_)
    refine a_go (by decide) (v_lload d_MO_lineIs_51 rfl ?_)
    refine a_go (by decide) (v_iconst d_MO_lineIs_53 ki_4 ?_)
    refine a_go (by decide) (v_callV d_MO_lineIs_54 rfl (mm_spl 5 rfl) rfl (Nat.le_of_ble_eq_true rfl) rfl ?_)
    have o6 := And.left hok
    replace hok := And.right hok
    refine (i_m_number rfl o6 ?_)
    refine a_go (by decide) (v_aload_n d_MO_lineIs_57 rfl ?_)
    refine a_go (by decide) (v_getR d_MO_lineIs_58 rfl rfl rfl ?_)
    refine a_go (by decide) (v_bipush d_MO_lineIs_61 kb_12 ?_)
    refine a_go (by decide) (v_iconst d_MO_lineIs_63 ki_0 ?_)
    have o7 := And.left hok
    replace hok := And.right hok
    refine a_go (by decide) (v_iastore d_MO_lineIs_64 rfl o7 ?_)
    refine a_go (by decide) (v_aload_n d_MO_lineIs_65 rfl ?_)
    refine a_go (by decide) (v_getR d_MO_lineIs_66 rfl rfl rfl ?_)
    refine a_go (by decide) (v_bipush d_MO_lineIs_69 kb_13 ?_)
    refine a_go (by decide) (v_iconst d_MO_lineIs_71 ki_0 ?_)
    have o8 := And.left hok
    replace hok := And.right hok
    refine a_go (by decide) (v_iastore d_MO_lineIs_72 rfl o8 ?_)
    refine a_go (by decide) (v_aload_n d_MO_lineIs_73 rfl ?_)
    refine a_go (by decide) (v_getR d_MO_lineIs_74 rfl rfl rfl ?_)
    refine a_go (by decide) (v_bipush d_MO_lineIs_77 kb_14 ?_)
    refine a_go (by decide) (v_iconst d_MO_lineIs_79 ki_0 ?_)
    have o9 := And.left hok
    replace hok := And.right hok
    refine a_go (by decide) (v_iastore d_MO_lineIs_80 rfl o9 ?_)
    refine a_go (by decide) (v_aload_n d_MO_lineIs_81 rfl ?_)
    refine a_go (by decide) (v_getR d_MO_lineIs_82 rfl rfl rfl ?_)
    refine a_go (by decide) (v_bipush d_MO_lineIs_85 kb_15 ?_)
    refine a_go (by decide) (v_bipush d_MO_lineIs_87 kb_90 ?_)
    have o10 := And.left hok
    replace hok := And.right hok
    refine a_go (by decide) (v_iastore d_MO_lineIs_89 rfl o10 ?_)
    refine a_go (by decide) (v_return d_MO_lineIs_90 rfl ?_)
    exact mm_fiS hk rfl
  · intro as x K _ k pc lv x' h
    cases h
-- TwoSlotsModel.goes(I)I
def e_m_goes (v0 : Int32) (x : mm_S) : Int32 × mm_S :=
  let x1 := mm_setA x 13 (upd (x.2.2 13) (Int32.toNatClampNeg (0 : Int32)) ((x.2.2 13 (Int32.toNatClampNeg (0 : Int32))) + (1 : Int32)))
  if (x1.1 101) = (0 : Int32) then
    if (x1.1 101) ≤ (-1 : Int32) then
      let x4 := mm_setI x1 101 (-1 : Int32)
      let x5 := mm_setI x4 100 (1 : Int32)
      let x6 := mm_setI x5 101 (-1 : Int32)
      let x7 := mm_setI x6 103 (-1 : Int32)
      let x8 := mm_setI x7 104 (0 : Int32)
      let x9 := mm_setI x8 106 (-1 : Int32)
      let x10 := mm_setI x9 105 (0 : Int32)
      ((x10.1 102) - (x10.1 102) / v0 * v0, x10)
    else
      let x11 := mm_setI x1 101 ((x1.1 101) - (1 : Int32))
      let x12 := mm_setI x11 100 (1 : Int32)
      let x13 := mm_setI x12 101 (-1 : Int32)
      let x14 := mm_setI x13 103 (-1 : Int32)
      let x15 := mm_setI x14 104 (0 : Int32)
      let x16 := mm_setI x15 106 (-1 : Int32)
      let x17 := mm_setI x16 105 (0 : Int32)
      ((x17.1 102) - (x17.1 102) / v0 * v0, x17)
  else
    if (x1.1 101) ≤ (-1 : Int32) then
      let x2 := mm_setI x1 101 (-1 : Int32)
      (v0, x2)
    else
      let x3 := mm_setI x1 101 ((x1.1 101) - (1 : Int32))
      (v0, x3)
def ok_m_goes (v0 : Int32) (x : mm_S) : Prop := (vp_in (0 : Int32) 7) ∧ ((vp_in (0 : Int32) 7) ∧ (let x1 := mm_setA x 13 (upd (x.2.2 13) (Int32.toNatClampNeg (0 : Int32)) ((x.2.2 13 (Int32.toNatClampNeg (0 : Int32))) + (1 : Int32))); if (x1.1 101) = (0 : Int32) then (if (x1.1 101) ≤ (-1 : Int32) then (let x4 := mm_setI x1 101 (-1 : Int32); let x5 := mm_setI x4 100 (1 : Int32); let x6 := mm_setI x5 101 (-1 : Int32); let x7 := mm_setI x6 103 (-1 : Int32); let x8 := mm_setI x7 104 (0 : Int32); let x9 := mm_setI x8 106 (-1 : Int32); let x10 := mm_setI x9 105 (0 : Int32); (¬ v0 = 0) ∧ (True)) else (let x11 := mm_setI x1 101 ((x1.1 101) - (1 : Int32)); let x12 := mm_setI x11 100 (1 : Int32); let x13 := mm_setI x12 101 (-1 : Int32); let x14 := mm_setI x13 103 (-1 : Int32); let x15 := mm_setI x14 104 (0 : Int32); let x16 := mm_setI x15 106 (-1 : Int32); let x17 := mm_setI x16 105 (0 : Int32); (¬ v0 = 0) ∧ (True))) else (if (x1.1 101) ≤ (-1 : Int32) then (let x2 := mm_setI x1 101 (-1 : Int32); True) else (let x3 := mm_setI x1 101 ((x1.1 101) - (1 : Int32)); True))))
def S_m_goes : mm_P := fun as x K => ∃ (v0 : Int32), as = [.ref 11, .int v0] ∧ (ok_m_goes v0 x) ∧ K (some (.int (e_m_goes v0 x).1)) (e_m_goes v0 x).2
theorem i_m_goes {v0 : Int32} {x : mm_S} {K : mm_K} (hpre : (ok_m_goes v0 x)) (hk : K (some (.int (e_m_goes v0 x).1)) (e_m_goes v0 x).2) : S_m_goes [.ref 11, .int v0] x K := ⟨_, rfl, hpre, hk⟩
def G_m_goes : mm_G := (FT_MO, CI_MO, CJ_MO, mm_tb [], mm_tb [], none)
def rm_m_goes : Room := { frames := 0, cells := 0, slots := 0, locals := 0 }
set_option maxHeartbeats 40000000 in
set_option maxRecDepth 10000 in
theorem c_m_goes (l : Launch) : mm_Con l NW CL TB LL y_MO_goes b_MO_goes 3 (some .int) rm_m_goes S_m_goes := by
  refine mm_con G_m_goes [] (fun _ _ _ _ _ _ _ => False) (by decide +kernel) tb_good LL_u nw_nest ?_ rfl ft_MO ci_MO cj_MO ?_ ?_ ?_ ?_
  · rintro as x K ⟨v0, rfl, -⟩
    exact Nat.le_of_ble_eq_true rfl
  · exact mm_tb_e (fun _ h => absurd h List.not_mem_nil)
  · exact mm_tb_e (fun _ h => absurd h List.not_mem_nil)
  · rintro as x K ⟨v0, rfl, hok, hk⟩
    refine ⟨400, ?_⟩
    refine v_aload_n d_MO_goes_0 rfl ?_
    refine a_go (by decide) (v_getR d_MO_goes_1 rfl rfl rfl ?_)
    refine a_go (by decide) (v_iconst d_MO_goes_4 ki_0 ?_)
    refine a_go (by decide) (v_dup2 d_MO_goes_5 rfl rfl ?_)
    have o1 := And.left hok
    replace hok := And.right hok
    refine a_go (by decide) (v_iaload d_MO_goes_6 (by decide) rfl o1 ?_)
    refine a_go (by decide) (v_iconst d_MO_goes_7 ki_1 ?_)
    refine a_go (by decide) (v_iadd d_MO_goes_8 ?_)
    have o2 := And.left hok
    replace hok := And.right hok
    refine a_go (by decide) (v_iastore d_MO_goes_9 rfl o2 ?_)
    refine a_go (by decide) (v_aload_n d_MO_goes_10 rfl ?_)
    refine a_go (by decide) (v_getI d_MO_goes_11 rfl rfl rfl ?_)
    refine a_go (by decide) (v_if_ne d_MO_goes_14 (t := 21) (by decide) (fun c1 => ?_) (fun c1 => ?_))
    · skip
      replace hok := mm_okn hok c1
      refine a_go (by decide) (v_iconst d_MO_goes_21 ki_0 ?_)
      refine a_go (by decide) (v_istore_n d_MO_goes_22 (by decide) ?_)
      refine a_go (by decide) (v_aload_n d_MO_goes_23 rfl ?_)
      refine a_go (by decide) (v_aload_n d_MO_goes_24 rfl ?_)
      refine a_go (by decide) (v_getI d_MO_goes_25 rfl rfl rfl ?_)
      refine a_go (by decide) (v_iconst d_MO_goes_28 ki_m1 ?_)
      refine a_go (by decide) (v_icmp_le d_MO_goes_29 (t := 41) (by decide) (fun c2 => ?_) (fun c2 => ?_))
      · skip
        replace hok := mm_okp hok c2
        refine a_go (by decide) (v_iconst d_MO_goes_41 ki_m1 ?_)
        refine a_go (by decide) (v_putI d_MO_goes_42 rfl rfl rfl ?_)
        refine a_go (by decide) (v_iload_n d_MO_goes_45 rfl ?_)
        refine a_go (by decide) (v_if_ne d_MO_goes_46 (t := 51) (by decide) (fun c3 => absurd c3 (by decide)) (fun c3 => ?_))
        refine a_go (by decide) (v_iload_n d_MO_goes_49 rfl ?_)
        refine a_go (by decide) (v_ireturn d_MO_goes_50 rfl rfl ?_)
        exact mm_fiVS hk (mm_ifn c1 (mm_ifp c2 rfl))
      · skip
        replace hok := mm_okn hok c2
        refine a_go (by decide) (v_aload_n d_MO_goes_32 rfl ?_)
        refine a_go (by decide) (v_getI d_MO_goes_33 rfl rfl rfl ?_)
        refine a_go (by decide) (v_iconst d_MO_goes_36 ki_1 ?_)
        refine a_go (by decide) (v_isub d_MO_goes_37 ?_)
        refine a_go (by decide) (v_goto d_MO_goes_38 (t := 42) (by decide) ?_)
        refine a_go (by decide) (v_putI d_MO_goes_42 rfl rfl rfl ?_)
        refine a_go (by decide) (v_iload_n d_MO_goes_45 rfl ?_)
        refine a_go (by decide) (v_if_ne d_MO_goes_46 (t := 51) (by decide) (fun c4 => absurd c4 (by decide)) (fun c4 => ?_))
        refine a_go (by decide) (v_iload_n d_MO_goes_49 rfl ?_)
        refine a_go (by decide) (v_ireturn d_MO_goes_50 rfl rfl ?_)
        exact mm_fiVS hk (mm_ifn c1 (mm_ifn c2 rfl))
    · skip
      replace hok := mm_okp hok c1
      refine a_go (by decide) (v_iconst d_MO_goes_17 ki_1 ?_)
      refine a_go (by decide) (v_goto d_MO_goes_18 (t := 22) (by decide) ?_)
      refine a_go (by decide) (v_istore_n d_MO_goes_22 (by decide) ?_)
      refine a_go (by decide) (v_aload_n d_MO_goes_23 rfl ?_)
      refine a_go (by decide) (v_aload_n d_MO_goes_24 rfl ?_)
      refine a_go (by decide) (v_getI d_MO_goes_25 rfl rfl rfl ?_)
      refine a_go (by decide) (v_iconst d_MO_goes_28 ki_m1 ?_)
      refine a_go (by decide) (v_icmp_le d_MO_goes_29 (t := 41) (by decide) (fun c5 => ?_) (fun c5 => ?_))
      · skip
        replace hok := mm_okp hok c5
        refine a_go (by decide) (v_iconst d_MO_goes_41 ki_m1 ?_)
        refine a_go (by decide) (v_putI d_MO_goes_42 rfl rfl rfl ?_)
        refine a_go (by decide) (v_iload_n d_MO_goes_45 rfl ?_)
        refine a_go (by decide) (v_if_ne d_MO_goes_46 (t := 51) (by decide) (fun c6 => ?_) (fun c6 => absurd c6 (by decide)))
        refine a_go (by decide) (v_aload_n d_MO_goes_51 rfl ?_)
        refine a_go (by decide) (v_iconst d_MO_goes_52 ki_1 ?_)
        refine a_go (by decide) (v_putZ d_MO_goes_53 rfl rfl rfl (by decide) ?_)
        refine a_go (by decide) (v_aload_n d_MO_goes_56 rfl ?_)
        refine a_go (by decide) (v_iconst d_MO_goes_57 ki_m1 ?_)
        refine a_go (by decide) (v_putI d_MO_goes_58 rfl rfl rfl ?_)
        refine a_go (by decide) (v_aload_n d_MO_goes_61 rfl ?_)
        refine a_go (by decide) (v_iconst d_MO_goes_62 ki_m1 ?_)
        refine a_go (by decide) (v_putI d_MO_goes_63 rfl rfl rfl ?_)
        refine a_go (by decide) (v_aload_n d_MO_goes_66 rfl ?_)
        refine a_go (by decide) (v_iconst d_MO_goes_67 ki_0 ?_)
        refine a_go (by decide) (v_putI d_MO_goes_68 rfl rfl rfl ?_)
        refine a_go (by decide) (v_aload_n d_MO_goes_71 rfl ?_)
        refine a_go (by decide) (v_iconst d_MO_goes_72 ki_m1 ?_)
        refine a_go (by decide) (v_putI d_MO_goes_73 rfl rfl rfl ?_)
        refine a_go (by decide) (v_aload_n d_MO_goes_76 rfl ?_)
        refine a_go (by decide) (v_iconst d_MO_goes_77 ki_0 ?_)
        refine a_go (by decide) (v_putI d_MO_goes_78 rfl rfl rfl ?_)
        refine a_go (by decide) (v_aload_n d_MO_goes_81 rfl ?_)
        refine a_go (by decide) (v_getI d_MO_goes_82 rfl rfl rfl ?_)
        refine a_go (by decide) (v_iload_n d_MO_goes_85 rfl ?_)
        have o3 := And.left hok
        replace hok := And.right hok
        refine a_go (by decide) (v_irem d_MO_goes_86 o3 ?_)
        refine a_go (by decide) (v_ireturn d_MO_goes_87 rfl rfl ?_)
        exact mm_fiVS hk (mm_ifp c1 (mm_ifp c5 rfl))
      · skip
        replace hok := mm_okn hok c5
        refine a_go (by decide) (v_aload_n d_MO_goes_32 rfl ?_)
        refine a_go (by decide) (v_getI d_MO_goes_33 rfl rfl rfl ?_)
        refine a_go (by decide) (v_iconst d_MO_goes_36 ki_1 ?_)
        refine a_go (by decide) (v_isub d_MO_goes_37 ?_)
        refine a_go (by decide) (v_goto d_MO_goes_38 (t := 42) (by decide) ?_)
        refine a_go (by decide) (v_putI d_MO_goes_42 rfl rfl rfl ?_)
        refine a_go (by decide) (v_iload_n d_MO_goes_45 rfl ?_)
        refine a_go (by decide) (v_if_ne d_MO_goes_46 (t := 51) (by decide) (fun c7 => ?_) (fun c7 => absurd c7 (by decide)))
        refine a_go (by decide) (v_aload_n d_MO_goes_51 rfl ?_)
        refine a_go (by decide) (v_iconst d_MO_goes_52 ki_1 ?_)
        refine a_go (by decide) (v_putZ d_MO_goes_53 rfl rfl rfl (by decide) ?_)
        refine a_go (by decide) (v_aload_n d_MO_goes_56 rfl ?_)
        refine a_go (by decide) (v_iconst d_MO_goes_57 ki_m1 ?_)
        refine a_go (by decide) (v_putI d_MO_goes_58 rfl rfl rfl ?_)
        refine a_go (by decide) (v_aload_n d_MO_goes_61 rfl ?_)
        refine a_go (by decide) (v_iconst d_MO_goes_62 ki_m1 ?_)
        refine a_go (by decide) (v_putI d_MO_goes_63 rfl rfl rfl ?_)
        refine a_go (by decide) (v_aload_n d_MO_goes_66 rfl ?_)
        refine a_go (by decide) (v_iconst d_MO_goes_67 ki_0 ?_)
        refine a_go (by decide) (v_putI d_MO_goes_68 rfl rfl rfl ?_)
        refine a_go (by decide) (v_aload_n d_MO_goes_71 rfl ?_)
        refine a_go (by decide) (v_iconst d_MO_goes_72 ki_m1 ?_)
        refine a_go (by decide) (v_putI d_MO_goes_73 rfl rfl rfl ?_)
        refine a_go (by decide) (v_aload_n d_MO_goes_76 rfl ?_)
        refine a_go (by decide) (v_iconst d_MO_goes_77 ki_0 ?_)
        refine a_go (by decide) (v_putI d_MO_goes_78 rfl rfl rfl ?_)
        refine a_go (by decide) (v_aload_n d_MO_goes_81 rfl ?_)
        refine a_go (by decide) (v_getI d_MO_goes_82 rfl rfl rfl ?_)
        refine a_go (by decide) (v_iload_n d_MO_goes_85 rfl ?_)
        have o4 := And.left hok
        replace hok := And.right hok
        refine a_go (by decide) (v_irem d_MO_goes_86 o4 ?_)
        refine a_go (by decide) (v_ireturn d_MO_goes_87 rfl rfl ?_)
        exact mm_fiVS hk (mm_ifp c1 (mm_ifn c5 rfl))
  · intro as x K _ k pc lv x' h
    cases h
-- TwoSlotsModel.erased(I)Z
def l_m_erased_19 (k : Nat) (u1 : Int32) (u2 : Int32) (u3 : Int32) (x : mm_S) : Int32 × mm_S := match k with
  | 0 => (0, x)
  | k + 1 =>
    if u2 ≤ u3 then
      if (x.1 100) = (0 : Int32) then
        ((1 : Int32), x)
      else
        ((0 : Int32), x)
    else
      let x3 := mm_setA x 10 (upd (x.2.2 10) (Int32.toNatClampNeg (((64 : Int32) * u1) + u3)) (255 : Int32))
      l_m_erased_19 (k) u1 u2 (u3 + (1 : Int32)) x3
def okl_m_erased_19 (k : Nat) (u1 : Int32) (u2 : Int32) (u3 : Int32) (x : mm_S) : Prop := match k with
  | 0 => False
  | k + 1 => if u2 ≤ u3 then (if (x.1 100) = (0 : Int32) then (True) else (True)) else ((vp_in (((64 : Int32) * u1) + u3) 4096) ∧ (let x3 := mm_setA x 10 (upd (x.2.2 10) (Int32.toNatClampNeg (((64 : Int32) * u1) + u3)) (255 : Int32)); okl_m_erased_19 (k) u1 u2 (u3 + (1 : Int32)) x3))
def e_m_erased (v0 : Int32) (x : mm_S) : Int32 × mm_S :=
  let x1 := mm_setA x 13 (upd (x.2.2 13) (Int32.toNatClampNeg (1 : Int32)) ((x.2.2 13 (Int32.toNatClampNeg (1 : Int32))) + (1 : Int32)))
  let q2 := e_m_goes (64 : Int32) x1
  l_m_erased_19 (mm_fu (0 : Int32) q2.1) v0 q2.1 (0 : Int32) q2.2
def ok_m_erased (v0 : Int32) (x : mm_S) : Prop := (vp_in (1 : Int32) 7) ∧ ((vp_in (1 : Int32) 7) ∧ (let x1 := mm_setA x 13 (upd (x.2.2 13) (Int32.toNatClampNeg (1 : Int32)) ((x.2.2 13 (Int32.toNatClampNeg (1 : Int32))) + (1 : Int32))); (ok_m_goes (64 : Int32) x1) ∧ (let q2 := e_m_goes (64 : Int32) x1; okl_m_erased_19 (mm_fu (0 : Int32) q2.1) v0 q2.1 (0 : Int32) q2.2)))
def S_m_erased : mm_P := fun as x K => ∃ (v0 : Int32), as = [.ref 11, .int v0] ∧ (ok_m_erased v0 x) ∧ K (some (.int (e_m_erased v0 x).1)) (e_m_erased v0 x).2
theorem i_m_erased {v0 : Int32} {x : mm_S} {K : mm_K} (hpre : (ok_m_erased v0 x)) (hk : K (some (.int (e_m_erased v0 x).1)) (e_m_erased v0 x).2) : S_m_erased [.ref 11, .int v0] x K := ⟨_, rfl, hpre, hk⟩
def G_m_erased : mm_G := (FT_MO, CI_MO, CJ_MO, mm_tb [], mm_tb [(113, 2, 5, S_m_goes)], none)
def rm_m_erased : Room := { frames := 1, cells := 0, slots := 0, locals := 22 }
abbrev Inv_m_erased : mm_K → List Value → mm_S → Nat → Nat → mm_V → mm_S → Prop := fun K _ _ k pc lv x => (pc = 19 ∧ ∃ (f : Nat) (u1 : Int32) (u2 : Int32) (u3 : Int32), k = f + 0 ∧ lv = [(0, .ref 11), (1, .int u1), (2, .int u2), (3, .int u3)] ∧ okl_m_erased_19 f u1 u2 u3 x ∧ K (some (.int (l_m_erased_19 f u1 u2 u3 x).1)) (l_m_erased_19 f u1 u2 u3 x).2)
set_option maxHeartbeats 40000000 in
set_option maxRecDepth 10000 in
theorem c_m_erased (l : Launch) : mm_Con l NW CL TB LL y_MO_erased b_MO_erased 4 (some .boolean) rm_m_erased S_m_erased := by
  refine mm_con G_m_erased [19] Inv_m_erased (by decide +kernel) tb_good LL_u nw_nest ?_ rfl ft_MO ci_MO cj_MO ?_ ?_ ?_ ?_
  · rintro as x K ⟨v0, rfl, -⟩
    exact Nat.le_of_ble_eq_true rfl
  · exact mm_tb_e (fun _ h => absurd h List.not_mem_nil)
  · exact mm_tb_e (List.forall_mem_cons.mpr ⟨mm_cvt_i (c_m_goes l) (mm_cb_i rfl rfl (by decide) (by decide) tc_MO_goes ti_MO ⟨by decide, by decide, by decide +kernel⟩ (Or.inl tl_MO_113)) rfl tv_MO_goes tx_MO_goes, fun _ h => absurd h List.not_mem_nil⟩)
  · rintro as x K ⟨v0, rfl, hok, hk⟩
    refine ⟨400, ?_⟩
    refine v_aload_n d_MO_erased_0 rfl ?_
    refine a_go (by decide) (v_getR d_MO_erased_1 rfl rfl rfl ?_)
    refine a_go (by decide) (v_iconst d_MO_erased_4 ki_1 ?_)
    refine a_go (by decide) (v_dup2 d_MO_erased_5 rfl rfl ?_)
    have o1 := And.left hok
    replace hok := And.right hok
    refine a_go (by decide) (v_iaload d_MO_erased_6 (by decide) rfl o1 ?_)
    refine a_go (by decide) (v_iconst d_MO_erased_7 ki_1 ?_)
    refine a_go (by decide) (v_iadd d_MO_erased_8 ?_)
    have o2 := And.left hok
    replace hok := And.right hok
    refine a_go (by decide) (v_iastore d_MO_erased_9 rfl o2 ?_)
    refine a_go (by decide) (v_aload_n d_MO_erased_10 rfl ?_)
    refine a_go (by decide) (v_bipush d_MO_erased_11 kb_64 ?_)
    refine a_go (by decide) (v_callV d_MO_erased_13 rfl (mm_spl 2 rfl) rfl (Nat.le_of_ble_eq_true rfl) rfl ?_)
    have o3 := And.left hok
    replace hok := And.right hok
    refine (i_m_goes o3 ?_)
    refine a_go (by decide) (v_istore_n d_MO_erased_16 (by decide) ?_)
    refine a_go (by decide) (v_iconst d_MO_erased_17 ki_0 ?_)
    refine a_go (by decide) (v_istore_n d_MO_erased_18 (by decide) ?_)
    refine a_cut (by decide) ⟨rfl, _, [(0, _), (1, _), (2, _), (3, _)], (mm_all_c rfl (mm_all_c rfl (mm_all_c rfl (mm_all_c rfl (mm_all_n))))), ⟨rfl, _, _, _, _, rfl, rfl, hok, (mm_mvVS hk rfl)⟩⟩
  · rintro as x0 K - k pc lv x - hinv
    obtain ⟨rfl, f, u1, u2, u3, hkf, rfl, hok, hk⟩ := hinv
    cases f with
    | zero => exact False.elim hok
    | succ k =>
      subst hkf
      refine ⟨900, ?_⟩
      refine v_iload_n d_MO_erased_19 rfl ?_
      refine a_go (by decide) (v_iload_n d_MO_erased_20 rfl ?_)
      refine a_go (by decide) (v_icmp_ge d_MO_erased_21 (t := 44) (by decide) (fun c1 => ?_) (fun c1 => ?_))
      · skip
        replace hok := mm_okp hok c1
        refine a_go (by decide) (v_aload_n d_MO_erased_44 rfl ?_)
        refine a_go (by decide) (v_getI d_MO_erased_45 rfl rfl rfl ?_)
        refine a_go (by decide) (v_if_ne d_MO_erased_48 (t := 55) (by decide) (fun c2 => ?_) (fun c2 => ?_))
        · skip
          replace hok := mm_okn hok c2
          refine a_go (by decide) (v_iconst d_MO_erased_55 ki_0 ?_)
          refine a_go (by decide) (v_zreturn d_MO_erased_56 rfl (by decide) ?_)
          exact mm_fiVS hk (mm_ifp c1 (mm_ifn c2 rfl))
        · skip
          replace hok := mm_okp hok c2
          refine a_go (by decide) (v_iconst d_MO_erased_51 ki_1 ?_)
          refine a_go (by decide) (v_goto d_MO_erased_52 (t := 56) (by decide) ?_)
          refine a_go (by decide) (v_zreturn d_MO_erased_56 rfl (by decide) ?_)
          exact mm_fiVS hk (mm_ifp c1 (mm_ifp c2 rfl))
      · skip
        replace hok := mm_okn hok c1
        refine a_go (by decide) (v_aload_n d_MO_erased_24 rfl ?_)
        refine a_go (by decide) (v_getR d_MO_erased_25 rfl rfl rfl ?_)
        refine a_go (by decide) (v_bipush d_MO_erased_28 kb_64 ?_)
        refine a_go (by decide) (v_iload_n d_MO_erased_30 rfl ?_)
        refine a_go (by decide) (v_imul d_MO_erased_31 ?_)
        refine a_go (by decide) (v_iload_n d_MO_erased_32 rfl ?_)
        refine a_go (by decide) (v_iadd d_MO_erased_33 ?_)
        refine a_go (by decide) (v_sipush d_MO_erased_34 ks_255 ?_)
        have o4 := And.left hok
        replace hok := And.right hok
        refine a_go (by decide) (v_iastore d_MO_erased_37 rfl o4 ?_)
        refine a_go (by decide) (v_iinc d_MO_erased_38 (by decide) rfl ki_1 ?_)
        refine a_go (by decide) (v_goto d_MO_erased_41 (t := 19) (by decide) ?_)
        refine a_cut (by decide) ⟨rfl, _, [(0, _), (1, _), (2, _), (3, _)], ?_, (mm_all_c rfl (mm_all_c rfl (mm_all_c rfl (mm_all_c rfl (mm_all_n))))), ⟨rfl, _, _, _, _, rfl, rfl, hok, (mm_mvVS hk (mm_ifn c1 rfl))⟩⟩
        exact Nat.lt_succ_self _
-- TwoSlotsModel.programmed(I[II)Z
def l_m_programmed_11 (k : Nat) (n1 : Nat) (r1 : Nat) (u1 : Int32) (u3 : Int32) (u4 : Int32) (u5 : Int32) (x : mm_S) : Int32 × mm_S := match k with
  | 0 => (0, x)
  | k + 1 =>
    if u4 ≤ u5 then
      if (x.1 100) = (0 : Int32) then
        ((1 : Int32), x)
      else
        ((0 : Int32), x)
    else
      let x2 := mm_setA x 10 (upd (x.2.2 10) (Int32.toNatClampNeg (u1 + u5)) ((x.2.2 10 (Int32.toNatClampNeg (u1 + u5))) &&& (x.2.2 r1 (Int32.toNatClampNeg (u3 + u5)))))
      l_m_programmed_11 (k) n1 r1 u1 u3 u4 (u5 + (1 : Int32)) x2
def okl_m_programmed_11 (k : Nat) (n1 : Nat) (r1 : Nat) (u1 : Int32) (u3 : Int32) (u4 : Int32) (u5 : Int32) (x : mm_S) : Prop := match k with
  | 0 => False
  | k + 1 => if u4 ≤ u5 then (if (x.1 100) = (0 : Int32) then (True) else (True)) else ((vp_in (u1 + u5) 4096) ∧ ((vp_in (u3 + u5) n1) ∧ ((vp_in (u1 + u5) 4096) ∧ (let x2 := mm_setA x 10 (upd (x.2.2 10) (Int32.toNatClampNeg (u1 + u5)) ((x.2.2 10 (Int32.toNatClampNeg (u1 + u5))) &&& (x.2.2 r1 (Int32.toNatClampNeg (u3 + u5))))); okl_m_programmed_11 (k) n1 r1 u1 u3 u4 (u5 + (1 : Int32)) x2))))
def e_m_programmed (v0 : Int32) (n1 : Nat) (r1 : Nat) (v2 : Int32) (x : mm_S) : Int32 × mm_S :=
  let q1 := e_m_goes (16 : Int32) x
  l_m_programmed_11 (mm_fu (0 : Int32) q1.1) n1 r1 v0 v2 q1.1 (0 : Int32) q1.2
def ok_m_programmed (v0 : Int32) (n1 : Nat) (r1 : Nat) (v2 : Int32) (x : mm_S) : Prop := (ok_m_goes (16 : Int32) x) ∧ (let q1 := e_m_goes (16 : Int32) x; okl_m_programmed_11 (mm_fu (0 : Int32) q1.1) n1 r1 v0 v2 q1.1 (0 : Int32) q1.2)
def S_m_programmed : mm_P := fun as x K => ∃ (v0 : Int32) (a1 n1 r1 : Nat) (v2 : Int32), as = [.ref 11, .int v0, .ref a1, .int v2] ∧ mm_ar LL a1 = some (1, n1, r1) ∧ (ok_m_programmed v0 n1 r1 v2 x) ∧ K (some (.int (e_m_programmed v0 n1 r1 v2 x).1)) (e_m_programmed v0 n1 r1 v2 x).2
theorem i_m_programmed {v0 : Int32} {a1 n1 r1 : Nat} {v2 : Int32} {x : mm_S} {K : mm_K} (ha1 : mm_ar LL a1 = some (1, n1, r1)) (hpre : (ok_m_programmed v0 n1 r1 v2 x)) (hk : K (some (.int (e_m_programmed v0 n1 r1 v2 x).1)) (e_m_programmed v0 n1 r1 v2 x).2) : S_m_programmed [.ref 11, .int v0, .ref a1, .int v2] x K := ⟨_, _, _, _, _, rfl, ha1, hpre, hk⟩
def G_m_programmed : mm_G := (FT_MO, CI_MO, CJ_MO, mm_tb [], mm_tb [(113, 2, 5, S_m_goes)], none)
def rm_m_programmed : Room := { frames := 1, cells := 0, slots := 0, locals := 22 }
abbrev Inv_m_programmed : mm_K → List Value → mm_S → Nat → Nat → mm_V → mm_S → Prop := fun K _ _ k pc lv x => (pc = 11 ∧ ∃ (f : Nat) (a1 n1 r1 : Nat) (u1 : Int32) (u3 : Int32) (u4 : Int32) (u5 : Int32), k = f + 0 ∧ lv = [(0, .ref 11), (1, .int u1), (2, .ref a1), (3, .int u3), (4, .int u4), (5, .int u5)] ∧ mm_ar LL a1 = some (1, n1, r1) ∧ okl_m_programmed_11 f n1 r1 u1 u3 u4 u5 x ∧ K (some (.int (l_m_programmed_11 f n1 r1 u1 u3 u4 u5 x).1)) (l_m_programmed_11 f n1 r1 u1 u3 u4 u5 x).2)
set_option maxHeartbeats 40000000 in
set_option maxRecDepth 10000 in
theorem c_m_programmed (l : Launch) : mm_Con l NW CL TB LL y_MO_programmed b_MO_programmed 6 (some .boolean) rm_m_programmed S_m_programmed := by
  refine mm_con G_m_programmed [11] Inv_m_programmed (by decide +kernel) tb_good LL_u nw_nest ?_ rfl ft_MO ci_MO cj_MO ?_ ?_ ?_ ?_
  · rintro as x K ⟨v0, a1, n1, r1, v2, rfl, -⟩
    exact Nat.le_of_ble_eq_true rfl
  · exact mm_tb_e (fun _ h => absurd h List.not_mem_nil)
  · exact mm_tb_e (List.forall_mem_cons.mpr ⟨mm_cvt_i (c_m_goes l) (mm_cb_i rfl rfl (by decide) (by decide) tc_MO_goes ti_MO ⟨by decide, by decide, by decide +kernel⟩ (Or.inl tl_MO_113)) rfl tv_MO_goes tx_MO_goes, fun _ h => absurd h List.not_mem_nil⟩)
  · rintro as x K ⟨v0, a1, n1, r1, v2, rfl, ha1, hok, hk⟩
    refine ⟨400, ?_⟩
    refine v_aload_n d_MO_programmed_0 rfl ?_
    refine a_go (by decide) (v_bipush d_MO_programmed_1 kb_16 ?_)
    refine a_go (by decide) (v_callV d_MO_programmed_3 rfl (mm_spl 2 rfl) rfl (Nat.le_of_ble_eq_true rfl) rfl ?_)
    have o1 := And.left hok
    replace hok := And.right hok
    refine (i_m_goes o1 ?_)
    refine a_go (by decide) (v_istore d_MO_programmed_6 (by decide) ?_)
    refine a_go (by decide) (v_iconst d_MO_programmed_8 ki_0 ?_)
    refine a_go (by decide) (v_istore d_MO_programmed_9 (by decide) ?_)
    refine a_cut (by decide) ⟨rfl, _, [(0, _), (1, _), (2, _), (3, _), (4, _), (5, _)], (mm_all_c rfl (mm_all_c rfl (mm_all_c rfl (mm_all_c rfl (mm_all_c rfl (mm_all_c rfl (mm_all_n))))))), ⟨rfl, _, _, _, _, _, _, _, _, rfl, rfl, ha1, hok, (mm_mvVS hk rfl)⟩⟩
  · rintro as x0 K - k pc lv x - hinv
    obtain ⟨rfl, f, a1, n1, r1, u1, u3, u4, u5, hkf, rfl, ha1, hok, hk⟩ := hinv
    cases f with
    | zero => exact False.elim hok
    | succ k =>
      subst hkf
      refine ⟨900, ?_⟩
      refine v_iload d_MO_programmed_11 rfl ?_
      refine a_go (by decide) (v_iload d_MO_programmed_13 rfl ?_)
      refine a_go (by decide) (v_icmp_ge d_MO_programmed_15 (t := 42) (by decide) (fun c1 => ?_) (fun c1 => ?_))
      · skip
        replace hok := mm_okp hok c1
        refine a_go (by decide) (v_aload_n d_MO_programmed_42 rfl ?_)
        refine a_go (by decide) (v_getI d_MO_programmed_43 rfl rfl rfl ?_)
        refine a_go (by decide) (v_if_ne d_MO_programmed_46 (t := 53) (by decide) (fun c2 => ?_) (fun c2 => ?_))
        · skip
          replace hok := mm_okn hok c2
          refine a_go (by decide) (v_iconst d_MO_programmed_53 ki_0 ?_)
          refine a_go (by decide) (v_zreturn d_MO_programmed_54 rfl (by decide) ?_)
          exact mm_fiVS hk (mm_ifp c1 (mm_ifn c2 rfl))
        · skip
          replace hok := mm_okp hok c2
          refine a_go (by decide) (v_iconst d_MO_programmed_49 ki_1 ?_)
          refine a_go (by decide) (v_goto d_MO_programmed_50 (t := 54) (by decide) ?_)
          refine a_go (by decide) (v_zreturn d_MO_programmed_54 rfl (by decide) ?_)
          exact mm_fiVS hk (mm_ifp c1 (mm_ifp c2 rfl))
      · skip
        replace hok := mm_okn hok c1
        refine a_go (by decide) (v_aload_n d_MO_programmed_18 rfl ?_)
        refine a_go (by decide) (v_getR d_MO_programmed_19 rfl rfl rfl ?_)
        refine a_go (by decide) (v_iload_n d_MO_programmed_22 rfl ?_)
        refine a_go (by decide) (v_iload d_MO_programmed_23 rfl ?_)
        refine a_go (by decide) (v_iadd d_MO_programmed_25 ?_)
        refine a_go (by decide) (v_dup2 d_MO_programmed_26 rfl rfl ?_)
        have o2 := And.left hok
        replace hok := And.right hok
        refine a_go (by decide) (v_iaload d_MO_programmed_27 (by decide) rfl o2 ?_)
        refine a_go (by decide) (v_aload_n d_MO_programmed_28 rfl ?_)
        refine a_go (by decide) (v_iload_n d_MO_programmed_29 rfl ?_)
        refine a_go (by decide) (v_iload d_MO_programmed_30 rfl ?_)
        refine a_go (by decide) (v_iadd d_MO_programmed_32 ?_)
        have o3 := And.left hok
        replace hok := And.right hok
        refine a_go (by decide) (v_iaload d_MO_programmed_33 (LL_n ha1).2 ha1 o3 ?_)
        refine a_go (by decide) (v_iand d_MO_programmed_34 ?_)
        have o4 := And.left hok
        replace hok := And.right hok
        refine a_go (by decide) (v_iastore d_MO_programmed_35 rfl o4 ?_)
        refine a_go (by decide) (v_iinc d_MO_programmed_36 (by decide) rfl ki_1 ?_)
        refine a_go (by decide) (v_goto d_MO_programmed_39 (t := 11) (by decide) ?_)
        refine a_cut (by decide) ⟨rfl, _, [(0, _), (1, _), (2, _), (3, _), (4, _), (5, _)], ?_, (mm_all_c rfl (mm_all_c rfl (mm_all_c rfl (mm_all_c rfl (mm_all_c rfl (mm_all_c rfl (mm_all_n))))))), ⟨rfl, _, _, _, _, _, _, _, _, rfl, rfl, ha1, hok, (mm_mvVS hk (mm_ifn c1 rfl))⟩⟩
        exact Nat.lt_succ_self _
-- TwoSlotsModel.isClean(I)Z
def l_m_isClean_2 (k : Nat) (u1 : Int32) (u2 : Int32) (x : mm_S) : Int32 := match k with
  | 0 => 0
  | k + 1 =>
    if (16 : Int32) ≤ u2 then
      (1 : Int32)
    else
      if (x.2.2 10 (Int32.toNatClampNeg (u1 + u2))) = (255 : Int32) then
        l_m_isClean_2 (k) u1 (u2 + (1 : Int32)) x
      else
        (0 : Int32)
def okl_m_isClean_2 (k : Nat) (u1 : Int32) (u2 : Int32) (x : mm_S) : Prop := match k with
  | 0 => False
  | k + 1 => if (16 : Int32) ≤ u2 then (True) else ((vp_in (u1 + u2) 4096) ∧ (if (x.2.2 10 (Int32.toNatClampNeg (u1 + u2))) = (255 : Int32) then (okl_m_isClean_2 (k) u1 (u2 + (1 : Int32)) x) else (True)))
def e_m_isClean (v0 : Int32) (x : mm_S) : Int32 :=
  l_m_isClean_2 (mm_fu (0 : Int32) 16) v0 (0 : Int32) x
def ok_m_isClean (v0 : Int32) (x : mm_S) : Prop := okl_m_isClean_2 (mm_fu (0 : Int32) 16) v0 (0 : Int32) x
def S_m_isClean : mm_P := fun as x K => ∃ (v0 : Int32), as = [.ref 11, .int v0] ∧ (ok_m_isClean v0 x) ∧ K (some (.int (e_m_isClean v0 x))) x
theorem i_m_isClean {v0 : Int32} {x : mm_S} {K : mm_K} (hpre : (ok_m_isClean v0 x)) (hk : K (some (.int (e_m_isClean v0 x))) x) : S_m_isClean [.ref 11, .int v0] x K := ⟨_, rfl, hpre, hk⟩
def G_m_isClean : mm_G := (FT_MO, CI_MO, CJ_MO, mm_tb [], mm_tb [], none)
def rm_m_isClean : Room := { frames := 0, cells := 0, slots := 0, locals := 0 }
abbrev Inv_m_isClean : mm_K → List Value → mm_S → Nat → Nat → mm_V → mm_S → Prop := fun K _ _ k pc lv x => (pc = 2 ∧ ∃ (f : Nat) (u1 : Int32) (u2 : Int32), k = f + 0 ∧ lv = [(0, .ref 11), (1, .int u1), (2, .int u2)] ∧ okl_m_isClean_2 f u1 u2 x ∧ K (some (.int (l_m_isClean_2 f u1 u2 x))) x)
set_option maxHeartbeats 40000000 in
set_option maxRecDepth 10000 in
theorem c_m_isClean (l : Launch) : mm_Con l NW CL TB LL y_MO_isClean b_MO_isClean 3 (some .boolean) rm_m_isClean S_m_isClean := by
  refine mm_con G_m_isClean [2] Inv_m_isClean (by decide +kernel) tb_good LL_u nw_nest ?_ rfl ft_MO ci_MO cj_MO ?_ ?_ ?_ ?_
  · rintro as x K ⟨v0, rfl, -⟩
    exact Nat.le_of_ble_eq_true rfl
  · exact mm_tb_e (fun _ h => absurd h List.not_mem_nil)
  · exact mm_tb_e (fun _ h => absurd h List.not_mem_nil)
  · rintro as x K ⟨v0, rfl, hok, hk⟩
    refine ⟨400, ?_⟩
    refine v_iconst d_MO_isClean_0 ki_0 ?_
    refine a_go (by decide) (v_istore_n d_MO_isClean_1 (by decide) ?_)
    refine a_cut (by decide) ⟨rfl, _, [(0, _), (1, _), (2, _)], (mm_all_c rfl (mm_all_c rfl (mm_all_c rfl (mm_all_n)))), ⟨rfl, _, _, _, rfl, rfl, hok, (mm_mvV hk rfl)⟩⟩
  · rintro as x0 K - k pc lv x - hinv
    obtain ⟨rfl, f, u1, u2, hkf, rfl, hok, hk⟩ := hinv
    cases f with
    | zero => exact False.elim hok
    | succ k =>
      subst hkf
      refine ⟨900, ?_⟩
      refine v_iload_n d_MO_isClean_2 rfl ?_
      refine a_go (by decide) (v_bipush d_MO_isClean_3 kb_16 ?_)
      refine a_go (by decide) (v_icmp_ge d_MO_isClean_5 (t := 30) (by decide) (fun c1 => ?_) (fun c1 => ?_))
      · skip
        replace hok := mm_okp hok c1
        refine a_go (by decide) (v_iconst d_MO_isClean_30 ki_1 ?_)
        refine a_go (by decide) (v_zreturn d_MO_isClean_31 rfl (by decide) ?_)
        exact mm_fiV hk (mm_ifp c1 rfl)
      · skip
        replace hok := mm_okn hok c1
        refine a_go (by decide) (v_aload_n d_MO_isClean_8 rfl ?_)
        refine a_go (by decide) (v_getR d_MO_isClean_9 rfl rfl rfl ?_)
        refine a_go (by decide) (v_iload_n d_MO_isClean_12 rfl ?_)
        refine a_go (by decide) (v_iload_n d_MO_isClean_13 rfl ?_)
        refine a_go (by decide) (v_iadd d_MO_isClean_14 ?_)
        have o1 := And.left hok
        replace hok := And.right hok
        refine a_go (by decide) (v_iaload d_MO_isClean_15 (by decide) rfl o1 ?_)
        refine a_go (by decide) (v_sipush d_MO_isClean_16 ks_255 ?_)
        refine a_go (by decide) (v_icmp_eq d_MO_isClean_19 (t := 24) (by decide) (fun c2 => ?_) (fun c2 => ?_))
        · skip
          replace hok := mm_okp hok c2
          refine a_go (by decide) (v_iinc d_MO_isClean_24 (by decide) rfl ki_1 ?_)
          refine a_go (by decide) (v_goto d_MO_isClean_27 (t := 2) (by decide) ?_)
          refine a_cut (by decide) ⟨rfl, _, [(0, _), (1, _), (2, _)], ?_, (mm_all_c rfl (mm_all_c rfl (mm_all_c rfl (mm_all_n)))), ⟨rfl, _, _, _, rfl, rfl, hok, (mm_mvV hk (mm_ifn c1 (mm_ifp c2 rfl)))⟩⟩
          exact Nat.lt_succ_self _
        · skip
          replace hok := mm_okn hok c2
          refine a_go (by decide) (v_iconst d_MO_isClean_22 ki_0 ?_)
          refine a_go (by decide) (v_zreturn d_MO_isClean_23 rfl (by decide) ?_)
          exact mm_fiV hk (mm_ifn c1 (mm_ifn c2 rfl))
-- TwoSlotsModel.appended(IIIIJ)Z
def l_m_appended_145 (k : Nat) (u8 : Int32) (u9 : Int32) (x : mm_S) : Int32 × mm_S := match k with
  | 0 => (0, x)
  | k + 1 =>
    if ((64 : Int32) * (u8 + (1 : Int32))) ≤ u9 then
      if u9 = ((64 : Int32) * (u8 + (1 : Int32))) then
        let y100 := (64 : Int32) * ((1 : Int32) - u8)
        let q101 := e_m_erased ((1 : Int32) - u8) x
        if q101.1 = (0 : Int32) then
          ((0 : Int32), q101.2)
        else
          let q102 := e_m_programmed y100 16 15 (0 : Int32) q101.2
          if q102.1 = (0 : Int32) then
            ((0 : Int32), q102.2)
          else
            let x103 := mm_setA q102.2 13 (upd (q102.2.2.2 13) (Int32.toNatClampNeg (2 : Int32)) ((q102.2.2.2 13 (Int32.toNatClampNeg (2 : Int32))) + (1 : Int32)))
            ((1 : Int32), x103)
      else
        let q98 := e_m_programmed u9 16 15 (0 : Int32) x
        if q98.1 = (0 : Int32) then
          ((0 : Int32), q98.2)
        else
          let x99 := mm_setA q98.2 13 (upd (q98.2.2.2 13) (Int32.toNatClampNeg (2 : Int32)) ((q98.2.2.2 13 (Int32.toNatClampNeg (2 : Int32))) + (1 : Int32)))
          ((1 : Int32), x99)
    else
      if (e_m_isClean u9 x) = (0 : Int32) then
        l_m_appended_145 (k) u8 (u9 + (16 : Int32)) x
      else
        if u9 = ((64 : Int32) * (u8 + (1 : Int32))) then
          let y106 := (64 : Int32) * ((1 : Int32) - u8)
          let q107 := e_m_erased ((1 : Int32) - u8) x
          if q107.1 = (0 : Int32) then
            ((0 : Int32), q107.2)
          else
            let q108 := e_m_programmed y106 16 15 (0 : Int32) q107.2
            if q108.1 = (0 : Int32) then
              ((0 : Int32), q108.2)
            else
              let x109 := mm_setA q108.2 13 (upd (q108.2.2.2 13) (Int32.toNatClampNeg (2 : Int32)) ((q108.2.2.2 13 (Int32.toNatClampNeg (2 : Int32))) + (1 : Int32)))
              ((1 : Int32), x109)
        else
          let q104 := e_m_programmed u9 16 15 (0 : Int32) x
          if q104.1 = (0 : Int32) then
            ((0 : Int32), q104.2)
          else
            let x105 := mm_setA q104.2 13 (upd (q104.2.2.2 13) (Int32.toNatClampNeg (2 : Int32)) ((q104.2.2.2 13 (Int32.toNatClampNeg (2 : Int32))) + (1 : Int32)))
            ((1 : Int32), x105)
def okl_m_appended_145 (k : Nat) (u8 : Int32) (u9 : Int32) (x : mm_S) : Prop := match k with
  | 0 => False
  | k + 1 => if ((64 : Int32) * (u8 + (1 : Int32))) ≤ u9 then (if u9 = ((64 : Int32) * (u8 + (1 : Int32))) then (let y100 := (64 : Int32) * ((1 : Int32) - u8); (ok_m_erased ((1 : Int32) - u8) x) ∧ (let q101 := e_m_erased ((1 : Int32) - u8) x; if q101.1 = (0 : Int32) then (True) else ((ok_m_programmed y100 16 15 (0 : Int32) q101.2) ∧ (let q102 := e_m_programmed y100 16 15 (0 : Int32) q101.2; if q102.1 = (0 : Int32) then (True) else ((vp_in (2 : Int32) 7) ∧ ((vp_in (2 : Int32) 7) ∧ (let x103 := mm_setA q102.2 13 (upd (q102.2.2.2 13) (Int32.toNatClampNeg (2 : Int32)) ((q102.2.2.2 13 (Int32.toNatClampNeg (2 : Int32))) + (1 : Int32))); True))))))) else ((ok_m_programmed u9 16 15 (0 : Int32) x) ∧ (let q98 := e_m_programmed u9 16 15 (0 : Int32) x; if q98.1 = (0 : Int32) then (True) else ((vp_in (2 : Int32) 7) ∧ ((vp_in (2 : Int32) 7) ∧ (let x99 := mm_setA q98.2 13 (upd (q98.2.2.2 13) (Int32.toNatClampNeg (2 : Int32)) ((q98.2.2.2 13 (Int32.toNatClampNeg (2 : Int32))) + (1 : Int32))); True)))))) else ((ok_m_isClean u9 x) ∧ (if (e_m_isClean u9 x) = (0 : Int32) then (okl_m_appended_145 (k) u8 (u9 + (16 : Int32)) x) else (if u9 = ((64 : Int32) * (u8 + (1 : Int32))) then (let y106 := (64 : Int32) * ((1 : Int32) - u8); (ok_m_erased ((1 : Int32) - u8) x) ∧ (let q107 := e_m_erased ((1 : Int32) - u8) x; if q107.1 = (0 : Int32) then (True) else ((ok_m_programmed y106 16 15 (0 : Int32) q107.2) ∧ (let q108 := e_m_programmed y106 16 15 (0 : Int32) q107.2; if q108.1 = (0 : Int32) then (True) else ((vp_in (2 : Int32) 7) ∧ ((vp_in (2 : Int32) 7) ∧ (let x109 := mm_setA q108.2 13 (upd (q108.2.2.2 13) (Int32.toNatClampNeg (2 : Int32)) ((q108.2.2.2 13 (Int32.toNatClampNeg (2 : Int32))) + (1 : Int32))); True))))))) else ((ok_m_programmed u9 16 15 (0 : Int32) x) ∧ (let q104 := e_m_programmed u9 16 15 (0 : Int32) x; if q104.1 = (0 : Int32) then (True) else ((vp_in (2 : Int32) 7) ∧ ((vp_in (2 : Int32) 7) ∧ (let x105 := mm_setA q104.2 13 (upd (q104.2.2.2 13) (Int32.toNatClampNeg (2 : Int32)) ((q104.2.2.2 13 (Int32.toNatClampNeg (2 : Int32))) + (1 : Int32))); True))))))))
def e_m_appended (v0 : Int32) (v1 : Int32) (v2 : Int32) (v3 : Int32) (v4 : Int64) (x : mm_S) : Int32 × mm_S :=
  let y1 := e_m_newest x
  if v0 = (-2 : Int32) then
    if v1 = (-2 : Int32) then
      if v2 = (-2 : Int32) then
        if v3 = (-2 : Int32) then
          if (lg_cmp v4 (-2 : Int64)) = (0 : Int32) then
            let x95 := e_m_lineIs ((e_m_read 4096 10 y1 (4 : Int32) x) + (1 : Int64)) (x.2.2 10 (Int32.toNatClampNeg (y1 + (4 : Int32)))) (x.2.2 10 (Int32.toNatClampNeg (y1 + (5 : Int32)))) (x.2.2 10 (Int32.toNatClampNeg (y1 + (6 : Int32)))) (x.2.2 10 (Int32.toNatClampNeg (y1 + (7 : Int32)))) (e_m_read 4096 10 (y1 + (8 : Int32)) (4 : Int32) x) x
            let y96 := y1 / (64 : Int32)
            let y97 := y1 + (16 : Int32)
            l_m_appended_145 (mm_fu y97 (64 * (y96 + 1))) y96 y97 x95
          else
            let x92 := e_m_lineIs ((e_m_read 4096 10 y1 (4 : Int32) x) + (1 : Int64)) (x.2.2 10 (Int32.toNatClampNeg (y1 + (4 : Int32)))) (x.2.2 10 (Int32.toNatClampNeg (y1 + (5 : Int32)))) (x.2.2 10 (Int32.toNatClampNeg (y1 + (6 : Int32)))) (x.2.2 10 (Int32.toNatClampNeg (y1 + (7 : Int32)))) v4 x
            let y93 := y1 / (64 : Int32)
            let y94 := y1 + (16 : Int32)
            l_m_appended_145 (mm_fu y94 (64 * (y93 + 1))) y93 y94 x92
        else
          if (lg_cmp v4 (-2 : Int64)) = (0 : Int32) then
            let x89 := e_m_lineIs ((e_m_read 4096 10 y1 (4 : Int32) x) + (1 : Int64)) (x.2.2 10 (Int32.toNatClampNeg (y1 + (4 : Int32)))) (x.2.2 10 (Int32.toNatClampNeg (y1 + (5 : Int32)))) (x.2.2 10 (Int32.toNatClampNeg (y1 + (6 : Int32)))) v3 (e_m_read 4096 10 (y1 + (8 : Int32)) (4 : Int32) x) x
            let y90 := y1 / (64 : Int32)
            let y91 := y1 + (16 : Int32)
            l_m_appended_145 (mm_fu y91 (64 * (y90 + 1))) y90 y91 x89
          else
            let x86 := e_m_lineIs ((e_m_read 4096 10 y1 (4 : Int32) x) + (1 : Int64)) (x.2.2 10 (Int32.toNatClampNeg (y1 + (4 : Int32)))) (x.2.2 10 (Int32.toNatClampNeg (y1 + (5 : Int32)))) (x.2.2 10 (Int32.toNatClampNeg (y1 + (6 : Int32)))) v3 v4 x
            let y87 := y1 / (64 : Int32)
            let y88 := y1 + (16 : Int32)
            l_m_appended_145 (mm_fu y88 (64 * (y87 + 1))) y87 y88 x86
      else
        if v3 = (-2 : Int32) then
          if (lg_cmp v4 (-2 : Int64)) = (0 : Int32) then
            let x83 := e_m_lineIs ((e_m_read 4096 10 y1 (4 : Int32) x) + (1 : Int64)) (x.2.2 10 (Int32.toNatClampNeg (y1 + (4 : Int32)))) (x.2.2 10 (Int32.toNatClampNeg (y1 + (5 : Int32)))) v2 (x.2.2 10 (Int32.toNatClampNeg (y1 + (7 : Int32)))) (e_m_read 4096 10 (y1 + (8 : Int32)) (4 : Int32) x) x
            let y84 := y1 / (64 : Int32)
            let y85 := y1 + (16 : Int32)
            l_m_appended_145 (mm_fu y85 (64 * (y84 + 1))) y84 y85 x83
          else
            let x80 := e_m_lineIs ((e_m_read 4096 10 y1 (4 : Int32) x) + (1 : Int64)) (x.2.2 10 (Int32.toNatClampNeg (y1 + (4 : Int32)))) (x.2.2 10 (Int32.toNatClampNeg (y1 + (5 : Int32)))) v2 (x.2.2 10 (Int32.toNatClampNeg (y1 + (7 : Int32)))) v4 x
            let y81 := y1 / (64 : Int32)
            let y82 := y1 + (16 : Int32)
            l_m_appended_145 (mm_fu y82 (64 * (y81 + 1))) y81 y82 x80
        else
          if (lg_cmp v4 (-2 : Int64)) = (0 : Int32) then
            let x77 := e_m_lineIs ((e_m_read 4096 10 y1 (4 : Int32) x) + (1 : Int64)) (x.2.2 10 (Int32.toNatClampNeg (y1 + (4 : Int32)))) (x.2.2 10 (Int32.toNatClampNeg (y1 + (5 : Int32)))) v2 v3 (e_m_read 4096 10 (y1 + (8 : Int32)) (4 : Int32) x) x
            let y78 := y1 / (64 : Int32)
            let y79 := y1 + (16 : Int32)
            l_m_appended_145 (mm_fu y79 (64 * (y78 + 1))) y78 y79 x77
          else
            let x74 := e_m_lineIs ((e_m_read 4096 10 y1 (4 : Int32) x) + (1 : Int64)) (x.2.2 10 (Int32.toNatClampNeg (y1 + (4 : Int32)))) (x.2.2 10 (Int32.toNatClampNeg (y1 + (5 : Int32)))) v2 v3 v4 x
            let y75 := y1 / (64 : Int32)
            let y76 := y1 + (16 : Int32)
            l_m_appended_145 (mm_fu y76 (64 * (y75 + 1))) y75 y76 x74
    else
      if v2 = (-2 : Int32) then
        if v3 = (-2 : Int32) then
          if (lg_cmp v4 (-2 : Int64)) = (0 : Int32) then
            let x71 := e_m_lineIs ((e_m_read 4096 10 y1 (4 : Int32) x) + (1 : Int64)) (x.2.2 10 (Int32.toNatClampNeg (y1 + (4 : Int32)))) v1 (x.2.2 10 (Int32.toNatClampNeg (y1 + (6 : Int32)))) (x.2.2 10 (Int32.toNatClampNeg (y1 + (7 : Int32)))) (e_m_read 4096 10 (y1 + (8 : Int32)) (4 : Int32) x) x
            let y72 := y1 / (64 : Int32)
            let y73 := y1 + (16 : Int32)
            l_m_appended_145 (mm_fu y73 (64 * (y72 + 1))) y72 y73 x71
          else
            let x68 := e_m_lineIs ((e_m_read 4096 10 y1 (4 : Int32) x) + (1 : Int64)) (x.2.2 10 (Int32.toNatClampNeg (y1 + (4 : Int32)))) v1 (x.2.2 10 (Int32.toNatClampNeg (y1 + (6 : Int32)))) (x.2.2 10 (Int32.toNatClampNeg (y1 + (7 : Int32)))) v4 x
            let y69 := y1 / (64 : Int32)
            let y70 := y1 + (16 : Int32)
            l_m_appended_145 (mm_fu y70 (64 * (y69 + 1))) y69 y70 x68
        else
          if (lg_cmp v4 (-2 : Int64)) = (0 : Int32) then
            let x65 := e_m_lineIs ((e_m_read 4096 10 y1 (4 : Int32) x) + (1 : Int64)) (x.2.2 10 (Int32.toNatClampNeg (y1 + (4 : Int32)))) v1 (x.2.2 10 (Int32.toNatClampNeg (y1 + (6 : Int32)))) v3 (e_m_read 4096 10 (y1 + (8 : Int32)) (4 : Int32) x) x
            let y66 := y1 / (64 : Int32)
            let y67 := y1 + (16 : Int32)
            l_m_appended_145 (mm_fu y67 (64 * (y66 + 1))) y66 y67 x65
          else
            let x62 := e_m_lineIs ((e_m_read 4096 10 y1 (4 : Int32) x) + (1 : Int64)) (x.2.2 10 (Int32.toNatClampNeg (y1 + (4 : Int32)))) v1 (x.2.2 10 (Int32.toNatClampNeg (y1 + (6 : Int32)))) v3 v4 x
            let y63 := y1 / (64 : Int32)
            let y64 := y1 + (16 : Int32)
            l_m_appended_145 (mm_fu y64 (64 * (y63 + 1))) y63 y64 x62
      else
        if v3 = (-2 : Int32) then
          if (lg_cmp v4 (-2 : Int64)) = (0 : Int32) then
            let x59 := e_m_lineIs ((e_m_read 4096 10 y1 (4 : Int32) x) + (1 : Int64)) (x.2.2 10 (Int32.toNatClampNeg (y1 + (4 : Int32)))) v1 v2 (x.2.2 10 (Int32.toNatClampNeg (y1 + (7 : Int32)))) (e_m_read 4096 10 (y1 + (8 : Int32)) (4 : Int32) x) x
            let y60 := y1 / (64 : Int32)
            let y61 := y1 + (16 : Int32)
            l_m_appended_145 (mm_fu y61 (64 * (y60 + 1))) y60 y61 x59
          else
            let x56 := e_m_lineIs ((e_m_read 4096 10 y1 (4 : Int32) x) + (1 : Int64)) (x.2.2 10 (Int32.toNatClampNeg (y1 + (4 : Int32)))) v1 v2 (x.2.2 10 (Int32.toNatClampNeg (y1 + (7 : Int32)))) v4 x
            let y57 := y1 / (64 : Int32)
            let y58 := y1 + (16 : Int32)
            l_m_appended_145 (mm_fu y58 (64 * (y57 + 1))) y57 y58 x56
        else
          if (lg_cmp v4 (-2 : Int64)) = (0 : Int32) then
            let x53 := e_m_lineIs ((e_m_read 4096 10 y1 (4 : Int32) x) + (1 : Int64)) (x.2.2 10 (Int32.toNatClampNeg (y1 + (4 : Int32)))) v1 v2 v3 (e_m_read 4096 10 (y1 + (8 : Int32)) (4 : Int32) x) x
            let y54 := y1 / (64 : Int32)
            let y55 := y1 + (16 : Int32)
            l_m_appended_145 (mm_fu y55 (64 * (y54 + 1))) y54 y55 x53
          else
            let x50 := e_m_lineIs ((e_m_read 4096 10 y1 (4 : Int32) x) + (1 : Int64)) (x.2.2 10 (Int32.toNatClampNeg (y1 + (4 : Int32)))) v1 v2 v3 v4 x
            let y51 := y1 / (64 : Int32)
            let y52 := y1 + (16 : Int32)
            l_m_appended_145 (mm_fu y52 (64 * (y51 + 1))) y51 y52 x50
  else
    if v1 = (-2 : Int32) then
      if v2 = (-2 : Int32) then
        if v3 = (-2 : Int32) then
          if (lg_cmp v4 (-2 : Int64)) = (0 : Int32) then
            let x47 := e_m_lineIs ((e_m_read 4096 10 y1 (4 : Int32) x) + (1 : Int64)) v0 (x.2.2 10 (Int32.toNatClampNeg (y1 + (5 : Int32)))) (x.2.2 10 (Int32.toNatClampNeg (y1 + (6 : Int32)))) (x.2.2 10 (Int32.toNatClampNeg (y1 + (7 : Int32)))) (e_m_read 4096 10 (y1 + (8 : Int32)) (4 : Int32) x) x
            let y48 := y1 / (64 : Int32)
            let y49 := y1 + (16 : Int32)
            l_m_appended_145 (mm_fu y49 (64 * (y48 + 1))) y48 y49 x47
          else
            let x44 := e_m_lineIs ((e_m_read 4096 10 y1 (4 : Int32) x) + (1 : Int64)) v0 (x.2.2 10 (Int32.toNatClampNeg (y1 + (5 : Int32)))) (x.2.2 10 (Int32.toNatClampNeg (y1 + (6 : Int32)))) (x.2.2 10 (Int32.toNatClampNeg (y1 + (7 : Int32)))) v4 x
            let y45 := y1 / (64 : Int32)
            let y46 := y1 + (16 : Int32)
            l_m_appended_145 (mm_fu y46 (64 * (y45 + 1))) y45 y46 x44
        else
          if (lg_cmp v4 (-2 : Int64)) = (0 : Int32) then
            let x41 := e_m_lineIs ((e_m_read 4096 10 y1 (4 : Int32) x) + (1 : Int64)) v0 (x.2.2 10 (Int32.toNatClampNeg (y1 + (5 : Int32)))) (x.2.2 10 (Int32.toNatClampNeg (y1 + (6 : Int32)))) v3 (e_m_read 4096 10 (y1 + (8 : Int32)) (4 : Int32) x) x
            let y42 := y1 / (64 : Int32)
            let y43 := y1 + (16 : Int32)
            l_m_appended_145 (mm_fu y43 (64 * (y42 + 1))) y42 y43 x41
          else
            let x38 := e_m_lineIs ((e_m_read 4096 10 y1 (4 : Int32) x) + (1 : Int64)) v0 (x.2.2 10 (Int32.toNatClampNeg (y1 + (5 : Int32)))) (x.2.2 10 (Int32.toNatClampNeg (y1 + (6 : Int32)))) v3 v4 x
            let y39 := y1 / (64 : Int32)
            let y40 := y1 + (16 : Int32)
            l_m_appended_145 (mm_fu y40 (64 * (y39 + 1))) y39 y40 x38
      else
        if v3 = (-2 : Int32) then
          if (lg_cmp v4 (-2 : Int64)) = (0 : Int32) then
            let x35 := e_m_lineIs ((e_m_read 4096 10 y1 (4 : Int32) x) + (1 : Int64)) v0 (x.2.2 10 (Int32.toNatClampNeg (y1 + (5 : Int32)))) v2 (x.2.2 10 (Int32.toNatClampNeg (y1 + (7 : Int32)))) (e_m_read 4096 10 (y1 + (8 : Int32)) (4 : Int32) x) x
            let y36 := y1 / (64 : Int32)
            let y37 := y1 + (16 : Int32)
            l_m_appended_145 (mm_fu y37 (64 * (y36 + 1))) y36 y37 x35
          else
            let x32 := e_m_lineIs ((e_m_read 4096 10 y1 (4 : Int32) x) + (1 : Int64)) v0 (x.2.2 10 (Int32.toNatClampNeg (y1 + (5 : Int32)))) v2 (x.2.2 10 (Int32.toNatClampNeg (y1 + (7 : Int32)))) v4 x
            let y33 := y1 / (64 : Int32)
            let y34 := y1 + (16 : Int32)
            l_m_appended_145 (mm_fu y34 (64 * (y33 + 1))) y33 y34 x32
        else
          if (lg_cmp v4 (-2 : Int64)) = (0 : Int32) then
            let x29 := e_m_lineIs ((e_m_read 4096 10 y1 (4 : Int32) x) + (1 : Int64)) v0 (x.2.2 10 (Int32.toNatClampNeg (y1 + (5 : Int32)))) v2 v3 (e_m_read 4096 10 (y1 + (8 : Int32)) (4 : Int32) x) x
            let y30 := y1 / (64 : Int32)
            let y31 := y1 + (16 : Int32)
            l_m_appended_145 (mm_fu y31 (64 * (y30 + 1))) y30 y31 x29
          else
            let x26 := e_m_lineIs ((e_m_read 4096 10 y1 (4 : Int32) x) + (1 : Int64)) v0 (x.2.2 10 (Int32.toNatClampNeg (y1 + (5 : Int32)))) v2 v3 v4 x
            let y27 := y1 / (64 : Int32)
            let y28 := y1 + (16 : Int32)
            l_m_appended_145 (mm_fu y28 (64 * (y27 + 1))) y27 y28 x26
    else
      if v2 = (-2 : Int32) then
        if v3 = (-2 : Int32) then
          if (lg_cmp v4 (-2 : Int64)) = (0 : Int32) then
            let x23 := e_m_lineIs ((e_m_read 4096 10 y1 (4 : Int32) x) + (1 : Int64)) v0 v1 (x.2.2 10 (Int32.toNatClampNeg (y1 + (6 : Int32)))) (x.2.2 10 (Int32.toNatClampNeg (y1 + (7 : Int32)))) (e_m_read 4096 10 (y1 + (8 : Int32)) (4 : Int32) x) x
            let y24 := y1 / (64 : Int32)
            let y25 := y1 + (16 : Int32)
            l_m_appended_145 (mm_fu y25 (64 * (y24 + 1))) y24 y25 x23
          else
            let x20 := e_m_lineIs ((e_m_read 4096 10 y1 (4 : Int32) x) + (1 : Int64)) v0 v1 (x.2.2 10 (Int32.toNatClampNeg (y1 + (6 : Int32)))) (x.2.2 10 (Int32.toNatClampNeg (y1 + (7 : Int32)))) v4 x
            let y21 := y1 / (64 : Int32)
            let y22 := y1 + (16 : Int32)
            l_m_appended_145 (mm_fu y22 (64 * (y21 + 1))) y21 y22 x20
        else
          if (lg_cmp v4 (-2 : Int64)) = (0 : Int32) then
            let x17 := e_m_lineIs ((e_m_read 4096 10 y1 (4 : Int32) x) + (1 : Int64)) v0 v1 (x.2.2 10 (Int32.toNatClampNeg (y1 + (6 : Int32)))) v3 (e_m_read 4096 10 (y1 + (8 : Int32)) (4 : Int32) x) x
            let y18 := y1 / (64 : Int32)
            let y19 := y1 + (16 : Int32)
            l_m_appended_145 (mm_fu y19 (64 * (y18 + 1))) y18 y19 x17
          else
            let x14 := e_m_lineIs ((e_m_read 4096 10 y1 (4 : Int32) x) + (1 : Int64)) v0 v1 (x.2.2 10 (Int32.toNatClampNeg (y1 + (6 : Int32)))) v3 v4 x
            let y15 := y1 / (64 : Int32)
            let y16 := y1 + (16 : Int32)
            l_m_appended_145 (mm_fu y16 (64 * (y15 + 1))) y15 y16 x14
      else
        if v3 = (-2 : Int32) then
          if (lg_cmp v4 (-2 : Int64)) = (0 : Int32) then
            let x11 := e_m_lineIs ((e_m_read 4096 10 y1 (4 : Int32) x) + (1 : Int64)) v0 v1 v2 (x.2.2 10 (Int32.toNatClampNeg (y1 + (7 : Int32)))) (e_m_read 4096 10 (y1 + (8 : Int32)) (4 : Int32) x) x
            let y12 := y1 / (64 : Int32)
            let y13 := y1 + (16 : Int32)
            l_m_appended_145 (mm_fu y13 (64 * (y12 + 1))) y12 y13 x11
          else
            let x8 := e_m_lineIs ((e_m_read 4096 10 y1 (4 : Int32) x) + (1 : Int64)) v0 v1 v2 (x.2.2 10 (Int32.toNatClampNeg (y1 + (7 : Int32)))) v4 x
            let y9 := y1 / (64 : Int32)
            let y10 := y1 + (16 : Int32)
            l_m_appended_145 (mm_fu y10 (64 * (y9 + 1))) y9 y10 x8
        else
          if (lg_cmp v4 (-2 : Int64)) = (0 : Int32) then
            let x5 := e_m_lineIs ((e_m_read 4096 10 y1 (4 : Int32) x) + (1 : Int64)) v0 v1 v2 v3 (e_m_read 4096 10 (y1 + (8 : Int32)) (4 : Int32) x) x
            let y6 := y1 / (64 : Int32)
            let y7 := y1 + (16 : Int32)
            l_m_appended_145 (mm_fu y7 (64 * (y6 + 1))) y6 y7 x5
          else
            let x2 := e_m_lineIs ((e_m_read 4096 10 y1 (4 : Int32) x) + (1 : Int64)) v0 v1 v2 v3 v4 x
            let y3 := y1 / (64 : Int32)
            let y4 := y1 + (16 : Int32)
            l_m_appended_145 (mm_fu y4 (64 * (y3 + 1))) y3 y4 x2
def ok_m_appended (v0 : Int32) (v1 : Int32) (v2 : Int32) (v3 : Int32) (v4 : Int64) (x : mm_S) : Prop := (ok_m_newest  x) ∧ (let y1 := e_m_newest x; (ok_m_read 4096 10 y1 (4 : Int32) x) ∧ (if v0 = (-2 : Int32) then ((vp_in (y1 + (4 : Int32)) 4096) ∧ (if v1 = (-2 : Int32) then ((vp_in (y1 + (5 : Int32)) 4096) ∧ (if v2 = (-2 : Int32) then ((vp_in (y1 + (6 : Int32)) 4096) ∧ (if v3 = (-2 : Int32) then ((vp_in (y1 + (7 : Int32)) 4096) ∧ (if (lg_cmp v4 (-2 : Int64)) = (0 : Int32) then ((ok_m_read 4096 10 (y1 + (8 : Int32)) (4 : Int32) x) ∧ ((ok_m_lineIs ((e_m_read 4096 10 y1 (4 : Int32) x) + (1 : Int64)) (x.2.2 10 (Int32.toNatClampNeg (y1 + (4 : Int32)))) (x.2.2 10 (Int32.toNatClampNeg (y1 + (5 : Int32)))) (x.2.2 10 (Int32.toNatClampNeg (y1 + (6 : Int32)))) (x.2.2 10 (Int32.toNatClampNeg (y1 + (7 : Int32)))) (e_m_read 4096 10 (y1 + (8 : Int32)) (4 : Int32) x) x) ∧ (let x95 := e_m_lineIs ((e_m_read 4096 10 y1 (4 : Int32) x) + (1 : Int64)) (x.2.2 10 (Int32.toNatClampNeg (y1 + (4 : Int32)))) (x.2.2 10 (Int32.toNatClampNeg (y1 + (5 : Int32)))) (x.2.2 10 (Int32.toNatClampNeg (y1 + (6 : Int32)))) (x.2.2 10 (Int32.toNatClampNeg (y1 + (7 : Int32)))) (e_m_read 4096 10 (y1 + (8 : Int32)) (4 : Int32) x) x; let y96 := y1 / (64 : Int32); let y97 := y1 + (16 : Int32); okl_m_appended_145 (mm_fu y97 (64 * (y96 + 1))) y96 y97 x95))) else ((ok_m_lineIs ((e_m_read 4096 10 y1 (4 : Int32) x) + (1 : Int64)) (x.2.2 10 (Int32.toNatClampNeg (y1 + (4 : Int32)))) (x.2.2 10 (Int32.toNatClampNeg (y1 + (5 : Int32)))) (x.2.2 10 (Int32.toNatClampNeg (y1 + (6 : Int32)))) (x.2.2 10 (Int32.toNatClampNeg (y1 + (7 : Int32)))) v4 x) ∧ (let x92 := e_m_lineIs ((e_m_read 4096 10 y1 (4 : Int32) x) + (1 : Int64)) (x.2.2 10 (Int32.toNatClampNeg (y1 + (4 : Int32)))) (x.2.2 10 (Int32.toNatClampNeg (y1 + (5 : Int32)))) (x.2.2 10 (Int32.toNatClampNeg (y1 + (6 : Int32)))) (x.2.2 10 (Int32.toNatClampNeg (y1 + (7 : Int32)))) v4 x; let y93 := y1 / (64 : Int32); let y94 := y1 + (16 : Int32); okl_m_appended_145 (mm_fu y94 (64 * (y93 + 1))) y93 y94 x92)))) else (if (lg_cmp v4 (-2 : Int64)) = (0 : Int32) then ((ok_m_read 4096 10 (y1 + (8 : Int32)) (4 : Int32) x) ∧ ((ok_m_lineIs ((e_m_read 4096 10 y1 (4 : Int32) x) + (1 : Int64)) (x.2.2 10 (Int32.toNatClampNeg (y1 + (4 : Int32)))) (x.2.2 10 (Int32.toNatClampNeg (y1 + (5 : Int32)))) (x.2.2 10 (Int32.toNatClampNeg (y1 + (6 : Int32)))) v3 (e_m_read 4096 10 (y1 + (8 : Int32)) (4 : Int32) x) x) ∧ (let x89 := e_m_lineIs ((e_m_read 4096 10 y1 (4 : Int32) x) + (1 : Int64)) (x.2.2 10 (Int32.toNatClampNeg (y1 + (4 : Int32)))) (x.2.2 10 (Int32.toNatClampNeg (y1 + (5 : Int32)))) (x.2.2 10 (Int32.toNatClampNeg (y1 + (6 : Int32)))) v3 (e_m_read 4096 10 (y1 + (8 : Int32)) (4 : Int32) x) x; let y90 := y1 / (64 : Int32); let y91 := y1 + (16 : Int32); okl_m_appended_145 (mm_fu y91 (64 * (y90 + 1))) y90 y91 x89))) else ((ok_m_lineIs ((e_m_read 4096 10 y1 (4 : Int32) x) + (1 : Int64)) (x.2.2 10 (Int32.toNatClampNeg (y1 + (4 : Int32)))) (x.2.2 10 (Int32.toNatClampNeg (y1 + (5 : Int32)))) (x.2.2 10 (Int32.toNatClampNeg (y1 + (6 : Int32)))) v3 v4 x) ∧ (let x86 := e_m_lineIs ((e_m_read 4096 10 y1 (4 : Int32) x) + (1 : Int64)) (x.2.2 10 (Int32.toNatClampNeg (y1 + (4 : Int32)))) (x.2.2 10 (Int32.toNatClampNeg (y1 + (5 : Int32)))) (x.2.2 10 (Int32.toNatClampNeg (y1 + (6 : Int32)))) v3 v4 x; let y87 := y1 / (64 : Int32); let y88 := y1 + (16 : Int32); okl_m_appended_145 (mm_fu y88 (64 * (y87 + 1))) y87 y88 x86))))) else (if v3 = (-2 : Int32) then ((vp_in (y1 + (7 : Int32)) 4096) ∧ (if (lg_cmp v4 (-2 : Int64)) = (0 : Int32) then ((ok_m_read 4096 10 (y1 + (8 : Int32)) (4 : Int32) x) ∧ ((ok_m_lineIs ((e_m_read 4096 10 y1 (4 : Int32) x) + (1 : Int64)) (x.2.2 10 (Int32.toNatClampNeg (y1 + (4 : Int32)))) (x.2.2 10 (Int32.toNatClampNeg (y1 + (5 : Int32)))) v2 (x.2.2 10 (Int32.toNatClampNeg (y1 + (7 : Int32)))) (e_m_read 4096 10 (y1 + (8 : Int32)) (4 : Int32) x) x) ∧ (let x83 := e_m_lineIs ((e_m_read 4096 10 y1 (4 : Int32) x) + (1 : Int64)) (x.2.2 10 (Int32.toNatClampNeg (y1 + (4 : Int32)))) (x.2.2 10 (Int32.toNatClampNeg (y1 + (5 : Int32)))) v2 (x.2.2 10 (Int32.toNatClampNeg (y1 + (7 : Int32)))) (e_m_read 4096 10 (y1 + (8 : Int32)) (4 : Int32) x) x; let y84 := y1 / (64 : Int32); let y85 := y1 + (16 : Int32); okl_m_appended_145 (mm_fu y85 (64 * (y84 + 1))) y84 y85 x83))) else ((ok_m_lineIs ((e_m_read 4096 10 y1 (4 : Int32) x) + (1 : Int64)) (x.2.2 10 (Int32.toNatClampNeg (y1 + (4 : Int32)))) (x.2.2 10 (Int32.toNatClampNeg (y1 + (5 : Int32)))) v2 (x.2.2 10 (Int32.toNatClampNeg (y1 + (7 : Int32)))) v4 x) ∧ (let x80 := e_m_lineIs ((e_m_read 4096 10 y1 (4 : Int32) x) + (1 : Int64)) (x.2.2 10 (Int32.toNatClampNeg (y1 + (4 : Int32)))) (x.2.2 10 (Int32.toNatClampNeg (y1 + (5 : Int32)))) v2 (x.2.2 10 (Int32.toNatClampNeg (y1 + (7 : Int32)))) v4 x; let y81 := y1 / (64 : Int32); let y82 := y1 + (16 : Int32); okl_m_appended_145 (mm_fu y82 (64 * (y81 + 1))) y81 y82 x80)))) else (if (lg_cmp v4 (-2 : Int64)) = (0 : Int32) then ((ok_m_read 4096 10 (y1 + (8 : Int32)) (4 : Int32) x) ∧ ((ok_m_lineIs ((e_m_read 4096 10 y1 (4 : Int32) x) + (1 : Int64)) (x.2.2 10 (Int32.toNatClampNeg (y1 + (4 : Int32)))) (x.2.2 10 (Int32.toNatClampNeg (y1 + (5 : Int32)))) v2 v3 (e_m_read 4096 10 (y1 + (8 : Int32)) (4 : Int32) x) x) ∧ (let x77 := e_m_lineIs ((e_m_read 4096 10 y1 (4 : Int32) x) + (1 : Int64)) (x.2.2 10 (Int32.toNatClampNeg (y1 + (4 : Int32)))) (x.2.2 10 (Int32.toNatClampNeg (y1 + (5 : Int32)))) v2 v3 (e_m_read 4096 10 (y1 + (8 : Int32)) (4 : Int32) x) x; let y78 := y1 / (64 : Int32); let y79 := y1 + (16 : Int32); okl_m_appended_145 (mm_fu y79 (64 * (y78 + 1))) y78 y79 x77))) else ((ok_m_lineIs ((e_m_read 4096 10 y1 (4 : Int32) x) + (1 : Int64)) (x.2.2 10 (Int32.toNatClampNeg (y1 + (4 : Int32)))) (x.2.2 10 (Int32.toNatClampNeg (y1 + (5 : Int32)))) v2 v3 v4 x) ∧ (let x74 := e_m_lineIs ((e_m_read 4096 10 y1 (4 : Int32) x) + (1 : Int64)) (x.2.2 10 (Int32.toNatClampNeg (y1 + (4 : Int32)))) (x.2.2 10 (Int32.toNatClampNeg (y1 + (5 : Int32)))) v2 v3 v4 x; let y75 := y1 / (64 : Int32); let y76 := y1 + (16 : Int32); okl_m_appended_145 (mm_fu y76 (64 * (y75 + 1))) y75 y76 x74)))))) else (if v2 = (-2 : Int32) then ((vp_in (y1 + (6 : Int32)) 4096) ∧ (if v3 = (-2 : Int32) then ((vp_in (y1 + (7 : Int32)) 4096) ∧ (if (lg_cmp v4 (-2 : Int64)) = (0 : Int32) then ((ok_m_read 4096 10 (y1 + (8 : Int32)) (4 : Int32) x) ∧ ((ok_m_lineIs ((e_m_read 4096 10 y1 (4 : Int32) x) + (1 : Int64)) (x.2.2 10 (Int32.toNatClampNeg (y1 + (4 : Int32)))) v1 (x.2.2 10 (Int32.toNatClampNeg (y1 + (6 : Int32)))) (x.2.2 10 (Int32.toNatClampNeg (y1 + (7 : Int32)))) (e_m_read 4096 10 (y1 + (8 : Int32)) (4 : Int32) x) x) ∧ (let x71 := e_m_lineIs ((e_m_read 4096 10 y1 (4 : Int32) x) + (1 : Int64)) (x.2.2 10 (Int32.toNatClampNeg (y1 + (4 : Int32)))) v1 (x.2.2 10 (Int32.toNatClampNeg (y1 + (6 : Int32)))) (x.2.2 10 (Int32.toNatClampNeg (y1 + (7 : Int32)))) (e_m_read 4096 10 (y1 + (8 : Int32)) (4 : Int32) x) x; let y72 := y1 / (64 : Int32); let y73 := y1 + (16 : Int32); okl_m_appended_145 (mm_fu y73 (64 * (y72 + 1))) y72 y73 x71))) else ((ok_m_lineIs ((e_m_read 4096 10 y1 (4 : Int32) x) + (1 : Int64)) (x.2.2 10 (Int32.toNatClampNeg (y1 + (4 : Int32)))) v1 (x.2.2 10 (Int32.toNatClampNeg (y1 + (6 : Int32)))) (x.2.2 10 (Int32.toNatClampNeg (y1 + (7 : Int32)))) v4 x) ∧ (let x68 := e_m_lineIs ((e_m_read 4096 10 y1 (4 : Int32) x) + (1 : Int64)) (x.2.2 10 (Int32.toNatClampNeg (y1 + (4 : Int32)))) v1 (x.2.2 10 (Int32.toNatClampNeg (y1 + (6 : Int32)))) (x.2.2 10 (Int32.toNatClampNeg (y1 + (7 : Int32)))) v4 x; let y69 := y1 / (64 : Int32); let y70 := y1 + (16 : Int32); okl_m_appended_145 (mm_fu y70 (64 * (y69 + 1))) y69 y70 x68)))) else (if (lg_cmp v4 (-2 : Int64)) = (0 : Int32) then ((ok_m_read 4096 10 (y1 + (8 : Int32)) (4 : Int32) x) ∧ ((ok_m_lineIs ((e_m_read 4096 10 y1 (4 : Int32) x) + (1 : Int64)) (x.2.2 10 (Int32.toNatClampNeg (y1 + (4 : Int32)))) v1 (x.2.2 10 (Int32.toNatClampNeg (y1 + (6 : Int32)))) v3 (e_m_read 4096 10 (y1 + (8 : Int32)) (4 : Int32) x) x) ∧ (let x65 := e_m_lineIs ((e_m_read 4096 10 y1 (4 : Int32) x) + (1 : Int64)) (x.2.2 10 (Int32.toNatClampNeg (y1 + (4 : Int32)))) v1 (x.2.2 10 (Int32.toNatClampNeg (y1 + (6 : Int32)))) v3 (e_m_read 4096 10 (y1 + (8 : Int32)) (4 : Int32) x) x; let y66 := y1 / (64 : Int32); let y67 := y1 + (16 : Int32); okl_m_appended_145 (mm_fu y67 (64 * (y66 + 1))) y66 y67 x65))) else ((ok_m_lineIs ((e_m_read 4096 10 y1 (4 : Int32) x) + (1 : Int64)) (x.2.2 10 (Int32.toNatClampNeg (y1 + (4 : Int32)))) v1 (x.2.2 10 (Int32.toNatClampNeg (y1 + (6 : Int32)))) v3 v4 x) ∧ (let x62 := e_m_lineIs ((e_m_read 4096 10 y1 (4 : Int32) x) + (1 : Int64)) (x.2.2 10 (Int32.toNatClampNeg (y1 + (4 : Int32)))) v1 (x.2.2 10 (Int32.toNatClampNeg (y1 + (6 : Int32)))) v3 v4 x; let y63 := y1 / (64 : Int32); let y64 := y1 + (16 : Int32); okl_m_appended_145 (mm_fu y64 (64 * (y63 + 1))) y63 y64 x62))))) else (if v3 = (-2 : Int32) then ((vp_in (y1 + (7 : Int32)) 4096) ∧ (if (lg_cmp v4 (-2 : Int64)) = (0 : Int32) then ((ok_m_read 4096 10 (y1 + (8 : Int32)) (4 : Int32) x) ∧ ((ok_m_lineIs ((e_m_read 4096 10 y1 (4 : Int32) x) + (1 : Int64)) (x.2.2 10 (Int32.toNatClampNeg (y1 + (4 : Int32)))) v1 v2 (x.2.2 10 (Int32.toNatClampNeg (y1 + (7 : Int32)))) (e_m_read 4096 10 (y1 + (8 : Int32)) (4 : Int32) x) x) ∧ (let x59 := e_m_lineIs ((e_m_read 4096 10 y1 (4 : Int32) x) + (1 : Int64)) (x.2.2 10 (Int32.toNatClampNeg (y1 + (4 : Int32)))) v1 v2 (x.2.2 10 (Int32.toNatClampNeg (y1 + (7 : Int32)))) (e_m_read 4096 10 (y1 + (8 : Int32)) (4 : Int32) x) x; let y60 := y1 / (64 : Int32); let y61 := y1 + (16 : Int32); okl_m_appended_145 (mm_fu y61 (64 * (y60 + 1))) y60 y61 x59))) else ((ok_m_lineIs ((e_m_read 4096 10 y1 (4 : Int32) x) + (1 : Int64)) (x.2.2 10 (Int32.toNatClampNeg (y1 + (4 : Int32)))) v1 v2 (x.2.2 10 (Int32.toNatClampNeg (y1 + (7 : Int32)))) v4 x) ∧ (let x56 := e_m_lineIs ((e_m_read 4096 10 y1 (4 : Int32) x) + (1 : Int64)) (x.2.2 10 (Int32.toNatClampNeg (y1 + (4 : Int32)))) v1 v2 (x.2.2 10 (Int32.toNatClampNeg (y1 + (7 : Int32)))) v4 x; let y57 := y1 / (64 : Int32); let y58 := y1 + (16 : Int32); okl_m_appended_145 (mm_fu y58 (64 * (y57 + 1))) y57 y58 x56)))) else (if (lg_cmp v4 (-2 : Int64)) = (0 : Int32) then ((ok_m_read 4096 10 (y1 + (8 : Int32)) (4 : Int32) x) ∧ ((ok_m_lineIs ((e_m_read 4096 10 y1 (4 : Int32) x) + (1 : Int64)) (x.2.2 10 (Int32.toNatClampNeg (y1 + (4 : Int32)))) v1 v2 v3 (e_m_read 4096 10 (y1 + (8 : Int32)) (4 : Int32) x) x) ∧ (let x53 := e_m_lineIs ((e_m_read 4096 10 y1 (4 : Int32) x) + (1 : Int64)) (x.2.2 10 (Int32.toNatClampNeg (y1 + (4 : Int32)))) v1 v2 v3 (e_m_read 4096 10 (y1 + (8 : Int32)) (4 : Int32) x) x; let y54 := y1 / (64 : Int32); let y55 := y1 + (16 : Int32); okl_m_appended_145 (mm_fu y55 (64 * (y54 + 1))) y54 y55 x53))) else ((ok_m_lineIs ((e_m_read 4096 10 y1 (4 : Int32) x) + (1 : Int64)) (x.2.2 10 (Int32.toNatClampNeg (y1 + (4 : Int32)))) v1 v2 v3 v4 x) ∧ (let x50 := e_m_lineIs ((e_m_read 4096 10 y1 (4 : Int32) x) + (1 : Int64)) (x.2.2 10 (Int32.toNatClampNeg (y1 + (4 : Int32)))) v1 v2 v3 v4 x; let y51 := y1 / (64 : Int32); let y52 := y1 + (16 : Int32); okl_m_appended_145 (mm_fu y52 (64 * (y51 + 1))) y51 y52 x50))))))) else (if v1 = (-2 : Int32) then ((vp_in (y1 + (5 : Int32)) 4096) ∧ (if v2 = (-2 : Int32) then ((vp_in (y1 + (6 : Int32)) 4096) ∧ (if v3 = (-2 : Int32) then ((vp_in (y1 + (7 : Int32)) 4096) ∧ (if (lg_cmp v4 (-2 : Int64)) = (0 : Int32) then ((ok_m_read 4096 10 (y1 + (8 : Int32)) (4 : Int32) x) ∧ ((ok_m_lineIs ((e_m_read 4096 10 y1 (4 : Int32) x) + (1 : Int64)) v0 (x.2.2 10 (Int32.toNatClampNeg (y1 + (5 : Int32)))) (x.2.2 10 (Int32.toNatClampNeg (y1 + (6 : Int32)))) (x.2.2 10 (Int32.toNatClampNeg (y1 + (7 : Int32)))) (e_m_read 4096 10 (y1 + (8 : Int32)) (4 : Int32) x) x) ∧ (let x47 := e_m_lineIs ((e_m_read 4096 10 y1 (4 : Int32) x) + (1 : Int64)) v0 (x.2.2 10 (Int32.toNatClampNeg (y1 + (5 : Int32)))) (x.2.2 10 (Int32.toNatClampNeg (y1 + (6 : Int32)))) (x.2.2 10 (Int32.toNatClampNeg (y1 + (7 : Int32)))) (e_m_read 4096 10 (y1 + (8 : Int32)) (4 : Int32) x) x; let y48 := y1 / (64 : Int32); let y49 := y1 + (16 : Int32); okl_m_appended_145 (mm_fu y49 (64 * (y48 + 1))) y48 y49 x47))) else ((ok_m_lineIs ((e_m_read 4096 10 y1 (4 : Int32) x) + (1 : Int64)) v0 (x.2.2 10 (Int32.toNatClampNeg (y1 + (5 : Int32)))) (x.2.2 10 (Int32.toNatClampNeg (y1 + (6 : Int32)))) (x.2.2 10 (Int32.toNatClampNeg (y1 + (7 : Int32)))) v4 x) ∧ (let x44 := e_m_lineIs ((e_m_read 4096 10 y1 (4 : Int32) x) + (1 : Int64)) v0 (x.2.2 10 (Int32.toNatClampNeg (y1 + (5 : Int32)))) (x.2.2 10 (Int32.toNatClampNeg (y1 + (6 : Int32)))) (x.2.2 10 (Int32.toNatClampNeg (y1 + (7 : Int32)))) v4 x; let y45 := y1 / (64 : Int32); let y46 := y1 + (16 : Int32); okl_m_appended_145 (mm_fu y46 (64 * (y45 + 1))) y45 y46 x44)))) else (if (lg_cmp v4 (-2 : Int64)) = (0 : Int32) then ((ok_m_read 4096 10 (y1 + (8 : Int32)) (4 : Int32) x) ∧ ((ok_m_lineIs ((e_m_read 4096 10 y1 (4 : Int32) x) + (1 : Int64)) v0 (x.2.2 10 (Int32.toNatClampNeg (y1 + (5 : Int32)))) (x.2.2 10 (Int32.toNatClampNeg (y1 + (6 : Int32)))) v3 (e_m_read 4096 10 (y1 + (8 : Int32)) (4 : Int32) x) x) ∧ (let x41 := e_m_lineIs ((e_m_read 4096 10 y1 (4 : Int32) x) + (1 : Int64)) v0 (x.2.2 10 (Int32.toNatClampNeg (y1 + (5 : Int32)))) (x.2.2 10 (Int32.toNatClampNeg (y1 + (6 : Int32)))) v3 (e_m_read 4096 10 (y1 + (8 : Int32)) (4 : Int32) x) x; let y42 := y1 / (64 : Int32); let y43 := y1 + (16 : Int32); okl_m_appended_145 (mm_fu y43 (64 * (y42 + 1))) y42 y43 x41))) else ((ok_m_lineIs ((e_m_read 4096 10 y1 (4 : Int32) x) + (1 : Int64)) v0 (x.2.2 10 (Int32.toNatClampNeg (y1 + (5 : Int32)))) (x.2.2 10 (Int32.toNatClampNeg (y1 + (6 : Int32)))) v3 v4 x) ∧ (let x38 := e_m_lineIs ((e_m_read 4096 10 y1 (4 : Int32) x) + (1 : Int64)) v0 (x.2.2 10 (Int32.toNatClampNeg (y1 + (5 : Int32)))) (x.2.2 10 (Int32.toNatClampNeg (y1 + (6 : Int32)))) v3 v4 x; let y39 := y1 / (64 : Int32); let y40 := y1 + (16 : Int32); okl_m_appended_145 (mm_fu y40 (64 * (y39 + 1))) y39 y40 x38))))) else (if v3 = (-2 : Int32) then ((vp_in (y1 + (7 : Int32)) 4096) ∧ (if (lg_cmp v4 (-2 : Int64)) = (0 : Int32) then ((ok_m_read 4096 10 (y1 + (8 : Int32)) (4 : Int32) x) ∧ ((ok_m_lineIs ((e_m_read 4096 10 y1 (4 : Int32) x) + (1 : Int64)) v0 (x.2.2 10 (Int32.toNatClampNeg (y1 + (5 : Int32)))) v2 (x.2.2 10 (Int32.toNatClampNeg (y1 + (7 : Int32)))) (e_m_read 4096 10 (y1 + (8 : Int32)) (4 : Int32) x) x) ∧ (let x35 := e_m_lineIs ((e_m_read 4096 10 y1 (4 : Int32) x) + (1 : Int64)) v0 (x.2.2 10 (Int32.toNatClampNeg (y1 + (5 : Int32)))) v2 (x.2.2 10 (Int32.toNatClampNeg (y1 + (7 : Int32)))) (e_m_read 4096 10 (y1 + (8 : Int32)) (4 : Int32) x) x; let y36 := y1 / (64 : Int32); let y37 := y1 + (16 : Int32); okl_m_appended_145 (mm_fu y37 (64 * (y36 + 1))) y36 y37 x35))) else ((ok_m_lineIs ((e_m_read 4096 10 y1 (4 : Int32) x) + (1 : Int64)) v0 (x.2.2 10 (Int32.toNatClampNeg (y1 + (5 : Int32)))) v2 (x.2.2 10 (Int32.toNatClampNeg (y1 + (7 : Int32)))) v4 x) ∧ (let x32 := e_m_lineIs ((e_m_read 4096 10 y1 (4 : Int32) x) + (1 : Int64)) v0 (x.2.2 10 (Int32.toNatClampNeg (y1 + (5 : Int32)))) v2 (x.2.2 10 (Int32.toNatClampNeg (y1 + (7 : Int32)))) v4 x; let y33 := y1 / (64 : Int32); let y34 := y1 + (16 : Int32); okl_m_appended_145 (mm_fu y34 (64 * (y33 + 1))) y33 y34 x32)))) else (if (lg_cmp v4 (-2 : Int64)) = (0 : Int32) then ((ok_m_read 4096 10 (y1 + (8 : Int32)) (4 : Int32) x) ∧ ((ok_m_lineIs ((e_m_read 4096 10 y1 (4 : Int32) x) + (1 : Int64)) v0 (x.2.2 10 (Int32.toNatClampNeg (y1 + (5 : Int32)))) v2 v3 (e_m_read 4096 10 (y1 + (8 : Int32)) (4 : Int32) x) x) ∧ (let x29 := e_m_lineIs ((e_m_read 4096 10 y1 (4 : Int32) x) + (1 : Int64)) v0 (x.2.2 10 (Int32.toNatClampNeg (y1 + (5 : Int32)))) v2 v3 (e_m_read 4096 10 (y1 + (8 : Int32)) (4 : Int32) x) x; let y30 := y1 / (64 : Int32); let y31 := y1 + (16 : Int32); okl_m_appended_145 (mm_fu y31 (64 * (y30 + 1))) y30 y31 x29))) else ((ok_m_lineIs ((e_m_read 4096 10 y1 (4 : Int32) x) + (1 : Int64)) v0 (x.2.2 10 (Int32.toNatClampNeg (y1 + (5 : Int32)))) v2 v3 v4 x) ∧ (let x26 := e_m_lineIs ((e_m_read 4096 10 y1 (4 : Int32) x) + (1 : Int64)) v0 (x.2.2 10 (Int32.toNatClampNeg (y1 + (5 : Int32)))) v2 v3 v4 x; let y27 := y1 / (64 : Int32); let y28 := y1 + (16 : Int32); okl_m_appended_145 (mm_fu y28 (64 * (y27 + 1))) y27 y28 x26)))))) else (if v2 = (-2 : Int32) then ((vp_in (y1 + (6 : Int32)) 4096) ∧ (if v3 = (-2 : Int32) then ((vp_in (y1 + (7 : Int32)) 4096) ∧ (if (lg_cmp v4 (-2 : Int64)) = (0 : Int32) then ((ok_m_read 4096 10 (y1 + (8 : Int32)) (4 : Int32) x) ∧ ((ok_m_lineIs ((e_m_read 4096 10 y1 (4 : Int32) x) + (1 : Int64)) v0 v1 (x.2.2 10 (Int32.toNatClampNeg (y1 + (6 : Int32)))) (x.2.2 10 (Int32.toNatClampNeg (y1 + (7 : Int32)))) (e_m_read 4096 10 (y1 + (8 : Int32)) (4 : Int32) x) x) ∧ (let x23 := e_m_lineIs ((e_m_read 4096 10 y1 (4 : Int32) x) + (1 : Int64)) v0 v1 (x.2.2 10 (Int32.toNatClampNeg (y1 + (6 : Int32)))) (x.2.2 10 (Int32.toNatClampNeg (y1 + (7 : Int32)))) (e_m_read 4096 10 (y1 + (8 : Int32)) (4 : Int32) x) x; let y24 := y1 / (64 : Int32); let y25 := y1 + (16 : Int32); okl_m_appended_145 (mm_fu y25 (64 * (y24 + 1))) y24 y25 x23))) else ((ok_m_lineIs ((e_m_read 4096 10 y1 (4 : Int32) x) + (1 : Int64)) v0 v1 (x.2.2 10 (Int32.toNatClampNeg (y1 + (6 : Int32)))) (x.2.2 10 (Int32.toNatClampNeg (y1 + (7 : Int32)))) v4 x) ∧ (let x20 := e_m_lineIs ((e_m_read 4096 10 y1 (4 : Int32) x) + (1 : Int64)) v0 v1 (x.2.2 10 (Int32.toNatClampNeg (y1 + (6 : Int32)))) (x.2.2 10 (Int32.toNatClampNeg (y1 + (7 : Int32)))) v4 x; let y21 := y1 / (64 : Int32); let y22 := y1 + (16 : Int32); okl_m_appended_145 (mm_fu y22 (64 * (y21 + 1))) y21 y22 x20)))) else (if (lg_cmp v4 (-2 : Int64)) = (0 : Int32) then ((ok_m_read 4096 10 (y1 + (8 : Int32)) (4 : Int32) x) ∧ ((ok_m_lineIs ((e_m_read 4096 10 y1 (4 : Int32) x) + (1 : Int64)) v0 v1 (x.2.2 10 (Int32.toNatClampNeg (y1 + (6 : Int32)))) v3 (e_m_read 4096 10 (y1 + (8 : Int32)) (4 : Int32) x) x) ∧ (let x17 := e_m_lineIs ((e_m_read 4096 10 y1 (4 : Int32) x) + (1 : Int64)) v0 v1 (x.2.2 10 (Int32.toNatClampNeg (y1 + (6 : Int32)))) v3 (e_m_read 4096 10 (y1 + (8 : Int32)) (4 : Int32) x) x; let y18 := y1 / (64 : Int32); let y19 := y1 + (16 : Int32); okl_m_appended_145 (mm_fu y19 (64 * (y18 + 1))) y18 y19 x17))) else ((ok_m_lineIs ((e_m_read 4096 10 y1 (4 : Int32) x) + (1 : Int64)) v0 v1 (x.2.2 10 (Int32.toNatClampNeg (y1 + (6 : Int32)))) v3 v4 x) ∧ (let x14 := e_m_lineIs ((e_m_read 4096 10 y1 (4 : Int32) x) + (1 : Int64)) v0 v1 (x.2.2 10 (Int32.toNatClampNeg (y1 + (6 : Int32)))) v3 v4 x; let y15 := y1 / (64 : Int32); let y16 := y1 + (16 : Int32); okl_m_appended_145 (mm_fu y16 (64 * (y15 + 1))) y15 y16 x14))))) else (if v3 = (-2 : Int32) then ((vp_in (y1 + (7 : Int32)) 4096) ∧ (if (lg_cmp v4 (-2 : Int64)) = (0 : Int32) then ((ok_m_read 4096 10 (y1 + (8 : Int32)) (4 : Int32) x) ∧ ((ok_m_lineIs ((e_m_read 4096 10 y1 (4 : Int32) x) + (1 : Int64)) v0 v1 v2 (x.2.2 10 (Int32.toNatClampNeg (y1 + (7 : Int32)))) (e_m_read 4096 10 (y1 + (8 : Int32)) (4 : Int32) x) x) ∧ (let x11 := e_m_lineIs ((e_m_read 4096 10 y1 (4 : Int32) x) + (1 : Int64)) v0 v1 v2 (x.2.2 10 (Int32.toNatClampNeg (y1 + (7 : Int32)))) (e_m_read 4096 10 (y1 + (8 : Int32)) (4 : Int32) x) x; let y12 := y1 / (64 : Int32); let y13 := y1 + (16 : Int32); okl_m_appended_145 (mm_fu y13 (64 * (y12 + 1))) y12 y13 x11))) else ((ok_m_lineIs ((e_m_read 4096 10 y1 (4 : Int32) x) + (1 : Int64)) v0 v1 v2 (x.2.2 10 (Int32.toNatClampNeg (y1 + (7 : Int32)))) v4 x) ∧ (let x8 := e_m_lineIs ((e_m_read 4096 10 y1 (4 : Int32) x) + (1 : Int64)) v0 v1 v2 (x.2.2 10 (Int32.toNatClampNeg (y1 + (7 : Int32)))) v4 x; let y9 := y1 / (64 : Int32); let y10 := y1 + (16 : Int32); okl_m_appended_145 (mm_fu y10 (64 * (y9 + 1))) y9 y10 x8)))) else (if (lg_cmp v4 (-2 : Int64)) = (0 : Int32) then ((ok_m_read 4096 10 (y1 + (8 : Int32)) (4 : Int32) x) ∧ ((ok_m_lineIs ((e_m_read 4096 10 y1 (4 : Int32) x) + (1 : Int64)) v0 v1 v2 v3 (e_m_read 4096 10 (y1 + (8 : Int32)) (4 : Int32) x) x) ∧ (let x5 := e_m_lineIs ((e_m_read 4096 10 y1 (4 : Int32) x) + (1 : Int64)) v0 v1 v2 v3 (e_m_read 4096 10 (y1 + (8 : Int32)) (4 : Int32) x) x; let y6 := y1 / (64 : Int32); let y7 := y1 + (16 : Int32); okl_m_appended_145 (mm_fu y7 (64 * (y6 + 1))) y6 y7 x5))) else ((ok_m_lineIs ((e_m_read 4096 10 y1 (4 : Int32) x) + (1 : Int64)) v0 v1 v2 v3 v4 x) ∧ (let x2 := e_m_lineIs ((e_m_read 4096 10 y1 (4 : Int32) x) + (1 : Int64)) v0 v1 v2 v3 v4 x; let y3 := y1 / (64 : Int32); let y4 := y1 + (16 : Int32); okl_m_appended_145 (mm_fu y4 (64 * (y3 + 1))) y3 y4 x2))))))))
def S_m_appended : mm_P := fun as x K => ∃ (v0 : Int32) (v1 : Int32) (v2 : Int32) (v3 : Int32) (v4 : Int64), as = [.ref 11, .int v0, .int v1, .int v2, .int v3, .long v4] ∧ (ok_m_appended v0 v1 v2 v3 v4 x) ∧ K (some (.int (e_m_appended v0 v1 v2 v3 v4 x).1)) (e_m_appended v0 v1 v2 v3 v4 x).2
theorem i_m_appended {v0 : Int32} {v1 : Int32} {v2 : Int32} {v3 : Int32} {v4 : Int64} {x : mm_S} {K : mm_K} (hpre : (ok_m_appended v0 v1 v2 v3 v4 x)) (hk : K (some (.int (e_m_appended v0 v1 v2 v3 v4 x).1)) (e_m_appended v0 v1 v2 v3 v4 x).2) : S_m_appended [.ref 11, .int v0, .int v1, .int v2, .int v3, .long v4] x K := ⟨_, _, _, _, _, rfl, hpre, hk⟩
def G_m_appended : mm_G := (FT_MO, CI_MO, CJ_MO, mm_tb [], mm_tb [(80, 1, 5, S_m_newest), (68, 4, 5, S_m_read), (52, 7, 5, S_m_lineIs), (125, 4, 5, S_m_programmed), (122, 2, 5, S_m_erased), (118, 2, 5, S_m_isClean)], none)
def rm_m_appended : Room := { frames := 2, cells := 0, slots := 0, locals := 54 }
abbrev Inv_m_appended : mm_K → List Value → mm_S → Nat → Nat → mm_V → mm_S → Prop := fun K _ _ k pc lv x => (pc = 145 ∧ ∃ (f : Nat) (u8 : Int32) (u9 : Int32), k = f + 0 ∧ lv = [(0, .ref 11), (8, .int u8), (9, .int u9)] ∧ okl_m_appended_145 f u8 u9 x ∧ K (some (.int (l_m_appended_145 f u8 u9 x).1)) (l_m_appended_145 f u8 u9 x).2)
set_option maxHeartbeats 40000000 in
set_option maxRecDepth 10000 in
theorem c_m_appended (l : Launch) : mm_Con l NW CL TB LL y_MO_appended b_MO_appended 10 (some .boolean) rm_m_appended S_m_appended := by
  refine mm_con G_m_appended [145] Inv_m_appended (by decide +kernel) tb_good LL_u nw_nest ?_ rfl ft_MO ci_MO cj_MO ?_ ?_ ?_ ?_
  · rintro as x K ⟨v0, v1, v2, v3, v4, rfl, -⟩
    exact Nat.le_of_ble_eq_true rfl
  · exact mm_tb_e (fun _ h => absurd h List.not_mem_nil)
  · exact mm_tb_e (List.forall_mem_cons.mpr ⟨mm_cvt_i (c_m_newest l) (mm_cb_i rfl rfl (by decide) (by decide) tc_MO_newest ti_MO ⟨by decide, by decide, by decide +kernel⟩ (Or.inl tl_MO_80)) rfl tv_MO_newest tx_MO_newest, List.forall_mem_cons.mpr ⟨mm_cvt_i (c_m_read l) (mm_cb_i rfl rfl (by decide) (by decide) tc_MO_read ti_MO ⟨by decide, by decide, by decide +kernel⟩ (Or.inl tl_MO_68)) rfl tv_MO_read tx_MO_read, List.forall_mem_cons.mpr ⟨mm_cvt_i (c_m_lineIs l) (mm_cb_i rfl rfl (by decide) (by decide) tc_MO_lineIs ti_MO ⟨by decide, by decide, by decide +kernel⟩ (Or.inl tl_MO_52)) rfl tv_MO_lineIs tx_MO_lineIs, List.forall_mem_cons.mpr ⟨mm_cvt_i (c_m_programmed l) (mm_cb_i rfl rfl (by decide) (by decide) tc_MO_programmed ti_MO ⟨by decide, by decide, by decide +kernel⟩ (Or.inl tl_MO_125)) rfl tv_MO_programmed tx_MO_programmed, List.forall_mem_cons.mpr ⟨mm_cvt_i (c_m_erased l) (mm_cb_i rfl rfl (by decide) (by decide) tc_MO_erased ti_MO ⟨by decide, by decide, by decide +kernel⟩ (Or.inl tl_MO_122)) rfl tv_MO_erased tx_MO_erased, List.forall_mem_cons.mpr ⟨mm_cvt_i (c_m_isClean l) (mm_cb_i rfl rfl (by decide) (by decide) tc_MO_isClean ti_MO ⟨by decide, by decide, by decide +kernel⟩ (Or.inl tl_MO_118)) rfl tv_MO_isClean tx_MO_isClean, fun _ h => absurd h List.not_mem_nil⟩⟩⟩⟩⟩⟩)
  · rintro as x K ⟨v0, v1, v2, v3, v4, rfl, hok, hk⟩
    refine ⟨400, ?_⟩
    refine v_aload_n d_MO_appended_0 rfl ?_
    refine a_go (by decide) (v_callV d_MO_appended_1 rfl (mm_spl 1 rfl) rfl (Nat.le_of_ble_eq_true rfl) rfl ?_)
    have o1 := And.left hok
    replace hok := And.right hok
    refine (i_m_newest o1 ?_)
    refine a_go (by decide) (v_istore d_MO_appended_4 (by decide) ?_)
    refine a_go (by decide) (v_aload_n d_MO_appended_6 rfl ?_)
    refine a_go (by decide) (v_aload_n d_MO_appended_7 rfl ?_)
    refine a_go (by decide) (v_aload_n d_MO_appended_8 rfl ?_)
    refine a_go (by decide) (v_getR d_MO_appended_9 rfl rfl rfl ?_)
    refine a_go (by decide) (v_iload d_MO_appended_12 rfl ?_)
    refine a_go (by decide) (v_iconst d_MO_appended_14 ki_4 ?_)
    refine a_go (by decide) (v_callV d_MO_appended_15 rfl (mm_spl 4 rfl) rfl (Nat.le_of_ble_eq_true rfl) rfl ?_)
    have o2 := And.left hok
    replace hok := And.right hok
    refine (i_m_read rfl o2 ?_)
    refine a_go (by decide) (v_lconst d_MO_appended_18 kl_1 ?_)
    refine a_go (by decide) (v_ladd d_MO_appended_19 ?_)
    refine a_go (by decide) (v_iload_n d_MO_appended_20 rfl ?_)
    refine a_go (by decide) (v_bipush d_MO_appended_21 kb_m2 ?_)
    refine a_go (by decide) (v_icmp_ne d_MO_appended_23 (t := 38) (by decide) (fun c1 => ?_) (fun c1 => ?_))
    · skip
      replace hok := mm_okn hok c1
      refine a_go (by decide) (v_iload_n d_MO_appended_38 rfl ?_)
      refine a_go (by decide) (v_iload_n d_MO_appended_39 rfl ?_)
      refine a_go (by decide) (v_bipush d_MO_appended_40 kb_m2 ?_)
      refine a_go (by decide) (v_icmp_ne d_MO_appended_42 (t := 57) (by decide) (fun c2 => ?_) (fun c2 => ?_))
      · skip
        replace hok := mm_okn hok c2
        refine a_go (by decide) (v_iload_n d_MO_appended_57 rfl ?_)
        refine a_go (by decide) (v_iload_n d_MO_appended_58 rfl ?_)
        refine a_go (by decide) (v_bipush d_MO_appended_59 kb_m2 ?_)
        refine a_go (by decide) (v_icmp_ne d_MO_appended_61 (t := 77) (by decide) (fun c3 => ?_) (fun c3 => ?_))
        · skip
          replace hok := mm_okn hok c3
          refine a_go (by decide) (v_iload_n d_MO_appended_77 rfl ?_)
          refine a_go (by decide) (v_iload d_MO_appended_78 rfl ?_)
          refine a_go (by decide) (v_bipush d_MO_appended_80 kb_m2 ?_)
          refine a_go (by decide) (v_icmp_ne d_MO_appended_82 (t := 98) (by decide) (fun c4 => ?_) (fun c4 => ?_))
          · skip
            replace hok := mm_okn hok c4
            refine a_go (by decide) (v_iload d_MO_appended_98 rfl ?_)
            refine a_go (by decide) (v_lload d_MO_appended_100 rfl ?_)
            refine a_go (by decide) (v_ldc2 d_MO_appended_102 rfl ?_)
            refine a_go (by decide) (v_lcmp d_MO_appended_105 ?_)
            refine a_go (by decide) (v_if_ne d_MO_appended_106 (t := 126) (by decide) (fun c5 => ?_) (fun c5 => ?_))
            · skip
              replace hok := mm_okn hok c5
              refine a_go (by decide) (v_lload d_MO_appended_126 rfl ?_)
              refine a_go (by decide) (v_callV d_MO_appended_128 rfl (mm_spl 7 rfl) rfl (Nat.le_of_ble_eq_true rfl) rfl ?_)
              have o3 := And.left hok
              replace hok := And.right hok
              refine (i_m_lineIs o3 ?_)
              refine a_go (by decide) (v_iload d_MO_appended_131 rfl ?_)
              refine a_go (by decide) (v_bipush d_MO_appended_133 kb_64 ?_)
              refine a_go (by decide) (v_idiv d_MO_appended_135 (by decide) ?_)
              refine a_go (by decide) (v_istore d_MO_appended_136 (by decide) ?_)
              refine a_go (by decide) (v_iload d_MO_appended_138 rfl ?_)
              refine a_go (by decide) (v_bipush d_MO_appended_140 kb_16 ?_)
              refine a_go (by decide) (v_iadd d_MO_appended_142 ?_)
              refine a_go (by decide) (v_istore d_MO_appended_143 (by decide) ?_)
              refine a_cut (by decide) ⟨rfl, _, [(0, _), (8, _), (9, _)], (mm_all_c rfl (mm_all_c rfl (mm_all_c rfl (mm_all_n)))), ⟨rfl, _, _, _, rfl, rfl, hok, (mm_mvVS hk (mm_ifn c1 (mm_ifn c2 (mm_ifn c3 (mm_ifn c4 (mm_ifn c5 rfl))))))⟩⟩
            · skip
              replace hok := mm_okp hok c5
              refine a_go (by decide) (v_aload_n d_MO_appended_109 rfl ?_)
              refine a_go (by decide) (v_aload_n d_MO_appended_110 rfl ?_)
              refine a_go (by decide) (v_getR d_MO_appended_111 rfl rfl rfl ?_)
              refine a_go (by decide) (v_iload d_MO_appended_114 rfl ?_)
              refine a_go (by decide) (v_bipush d_MO_appended_116 kb_8 ?_)
              refine a_go (by decide) (v_iadd d_MO_appended_118 ?_)
              refine a_go (by decide) (v_iconst d_MO_appended_119 ki_4 ?_)
              refine a_go (by decide) (v_callV d_MO_appended_120 rfl (mm_spl 4 rfl) rfl (Nat.le_of_ble_eq_true rfl) rfl ?_)
              have o4 := And.left hok
              replace hok := And.right hok
              refine (i_m_read rfl o4 ?_)
              refine a_go (by decide) (v_goto d_MO_appended_123 (t := 128) (by decide) ?_)
              refine a_go (by decide) (v_callV d_MO_appended_128 rfl (mm_spl 7 rfl) rfl (Nat.le_of_ble_eq_true rfl) rfl ?_)
              have o5 := And.left hok
              replace hok := And.right hok
              refine (i_m_lineIs o5 ?_)
              refine a_go (by decide) (v_iload d_MO_appended_131 rfl ?_)
              refine a_go (by decide) (v_bipush d_MO_appended_133 kb_64 ?_)
              refine a_go (by decide) (v_idiv d_MO_appended_135 (by decide) ?_)
              refine a_go (by decide) (v_istore d_MO_appended_136 (by decide) ?_)
              refine a_go (by decide) (v_iload d_MO_appended_138 rfl ?_)
              refine a_go (by decide) (v_bipush d_MO_appended_140 kb_16 ?_)
              refine a_go (by decide) (v_iadd d_MO_appended_142 ?_)
              refine a_go (by decide) (v_istore d_MO_appended_143 (by decide) ?_)
              refine a_cut (by decide) ⟨rfl, _, [(0, _), (8, _), (9, _)], (mm_all_c rfl (mm_all_c rfl (mm_all_c rfl (mm_all_n)))), ⟨rfl, _, _, _, rfl, rfl, hok, (mm_mvVS hk (mm_ifn c1 (mm_ifn c2 (mm_ifn c3 (mm_ifn c4 (mm_ifp c5 rfl))))))⟩⟩
          · skip
            replace hok := mm_okp hok c4
            refine a_go (by decide) (v_aload_n d_MO_appended_85 rfl ?_)
            refine a_go (by decide) (v_getR d_MO_appended_86 rfl rfl rfl ?_)
            refine a_go (by decide) (v_iload d_MO_appended_89 rfl ?_)
            refine a_go (by decide) (v_bipush d_MO_appended_91 kb_7 ?_)
            refine a_go (by decide) (v_iadd d_MO_appended_93 ?_)
            have o6 := And.left hok
            replace hok := And.right hok
            refine a_go (by decide) (v_iaload d_MO_appended_94 (by decide) rfl o6 ?_)
            refine a_go (by decide) (v_goto d_MO_appended_95 (t := 100) (by decide) ?_)
            refine a_go (by decide) (v_lload d_MO_appended_100 rfl ?_)
            refine a_go (by decide) (v_ldc2 d_MO_appended_102 rfl ?_)
            refine a_go (by decide) (v_lcmp d_MO_appended_105 ?_)
            refine a_go (by decide) (v_if_ne d_MO_appended_106 (t := 126) (by decide) (fun c6 => ?_) (fun c6 => ?_))
            · skip
              replace hok := mm_okn hok c6
              refine a_go (by decide) (v_lload d_MO_appended_126 rfl ?_)
              refine a_go (by decide) (v_callV d_MO_appended_128 rfl (mm_spl 7 rfl) rfl (Nat.le_of_ble_eq_true rfl) rfl ?_)
              have o7 := And.left hok
              replace hok := And.right hok
              refine (i_m_lineIs o7 ?_)
              refine a_go (by decide) (v_iload d_MO_appended_131 rfl ?_)
              refine a_go (by decide) (v_bipush d_MO_appended_133 kb_64 ?_)
              refine a_go (by decide) (v_idiv d_MO_appended_135 (by decide) ?_)
              refine a_go (by decide) (v_istore d_MO_appended_136 (by decide) ?_)
              refine a_go (by decide) (v_iload d_MO_appended_138 rfl ?_)
              refine a_go (by decide) (v_bipush d_MO_appended_140 kb_16 ?_)
              refine a_go (by decide) (v_iadd d_MO_appended_142 ?_)
              refine a_go (by decide) (v_istore d_MO_appended_143 (by decide) ?_)
              refine a_cut (by decide) ⟨rfl, _, [(0, _), (8, _), (9, _)], (mm_all_c rfl (mm_all_c rfl (mm_all_c rfl (mm_all_n)))), ⟨rfl, _, _, _, rfl, rfl, hok, (mm_mvVS hk (mm_ifn c1 (mm_ifn c2 (mm_ifn c3 (mm_ifp c4 (mm_ifn c6 rfl))))))⟩⟩
            · skip
              replace hok := mm_okp hok c6
              refine a_go (by decide) (v_aload_n d_MO_appended_109 rfl ?_)
              refine a_go (by decide) (v_aload_n d_MO_appended_110 rfl ?_)
              refine a_go (by decide) (v_getR d_MO_appended_111 rfl rfl rfl ?_)
              refine a_go (by decide) (v_iload d_MO_appended_114 rfl ?_)
              refine a_go (by decide) (v_bipush d_MO_appended_116 kb_8 ?_)
              refine a_go (by decide) (v_iadd d_MO_appended_118 ?_)
              refine a_go (by decide) (v_iconst d_MO_appended_119 ki_4 ?_)
              refine a_go (by decide) (v_callV d_MO_appended_120 rfl (mm_spl 4 rfl) rfl (Nat.le_of_ble_eq_true rfl) rfl ?_)
              have o8 := And.left hok
              replace hok := And.right hok
              refine (i_m_read rfl o8 ?_)
              refine a_go (by decide) (v_goto d_MO_appended_123 (t := 128) (by decide) ?_)
              refine a_go (by decide) (v_callV d_MO_appended_128 rfl (mm_spl 7 rfl) rfl (Nat.le_of_ble_eq_true rfl) rfl ?_)
              have o9 := And.left hok
              replace hok := And.right hok
              refine (i_m_lineIs o9 ?_)
              refine a_go (by decide) (v_iload d_MO_appended_131 rfl ?_)
              refine a_go (by decide) (v_bipush d_MO_appended_133 kb_64 ?_)
              refine a_go (by decide) (v_idiv d_MO_appended_135 (by decide) ?_)
              refine a_go (by decide) (v_istore d_MO_appended_136 (by decide) ?_)
              refine a_go (by decide) (v_iload d_MO_appended_138 rfl ?_)
              refine a_go (by decide) (v_bipush d_MO_appended_140 kb_16 ?_)
              refine a_go (by decide) (v_iadd d_MO_appended_142 ?_)
              refine a_go (by decide) (v_istore d_MO_appended_143 (by decide) ?_)
              refine a_cut (by decide) ⟨rfl, _, [(0, _), (8, _), (9, _)], (mm_all_c rfl (mm_all_c rfl (mm_all_c rfl (mm_all_n)))), ⟨rfl, _, _, _, rfl, rfl, hok, (mm_mvVS hk (mm_ifn c1 (mm_ifn c2 (mm_ifn c3 (mm_ifp c4 (mm_ifp c6 rfl))))))⟩⟩
        · skip
          replace hok := mm_okp hok c3
          refine a_go (by decide) (v_aload_n d_MO_appended_64 rfl ?_)
          refine a_go (by decide) (v_getR d_MO_appended_65 rfl rfl rfl ?_)
          refine a_go (by decide) (v_iload d_MO_appended_68 rfl ?_)
          refine a_go (by decide) (v_bipush d_MO_appended_70 kb_6 ?_)
          refine a_go (by decide) (v_iadd d_MO_appended_72 ?_)
          have o10 := And.left hok
          replace hok := And.right hok
          refine a_go (by decide) (v_iaload d_MO_appended_73 (by decide) rfl o10 ?_)
          refine a_go (by decide) (v_goto d_MO_appended_74 (t := 78) (by decide) ?_)
          refine a_go (by decide) (v_iload d_MO_appended_78 rfl ?_)
          refine a_go (by decide) (v_bipush d_MO_appended_80 kb_m2 ?_)
          refine a_go (by decide) (v_icmp_ne d_MO_appended_82 (t := 98) (by decide) (fun c7 => ?_) (fun c7 => ?_))
          · skip
            replace hok := mm_okn hok c7
            refine a_go (by decide) (v_iload d_MO_appended_98 rfl ?_)
            refine a_go (by decide) (v_lload d_MO_appended_100 rfl ?_)
            refine a_go (by decide) (v_ldc2 d_MO_appended_102 rfl ?_)
            refine a_go (by decide) (v_lcmp d_MO_appended_105 ?_)
            refine a_go (by decide) (v_if_ne d_MO_appended_106 (t := 126) (by decide) (fun c8 => ?_) (fun c8 => ?_))
            · skip
              replace hok := mm_okn hok c8
              refine a_go (by decide) (v_lload d_MO_appended_126 rfl ?_)
              refine a_go (by decide) (v_callV d_MO_appended_128 rfl (mm_spl 7 rfl) rfl (Nat.le_of_ble_eq_true rfl) rfl ?_)
              have o11 := And.left hok
              replace hok := And.right hok
              refine (i_m_lineIs o11 ?_)
              refine a_go (by decide) (v_iload d_MO_appended_131 rfl ?_)
              refine a_go (by decide) (v_bipush d_MO_appended_133 kb_64 ?_)
              refine a_go (by decide) (v_idiv d_MO_appended_135 (by decide) ?_)
              refine a_go (by decide) (v_istore d_MO_appended_136 (by decide) ?_)
              refine a_go (by decide) (v_iload d_MO_appended_138 rfl ?_)
              refine a_go (by decide) (v_bipush d_MO_appended_140 kb_16 ?_)
              refine a_go (by decide) (v_iadd d_MO_appended_142 ?_)
              refine a_go (by decide) (v_istore d_MO_appended_143 (by decide) ?_)
              refine a_cut (by decide) ⟨rfl, _, [(0, _), (8, _), (9, _)], (mm_all_c rfl (mm_all_c rfl (mm_all_c rfl (mm_all_n)))), ⟨rfl, _, _, _, rfl, rfl, hok, (mm_mvVS hk (mm_ifn c1 (mm_ifn c2 (mm_ifp c3 (mm_ifn c7 (mm_ifn c8 rfl))))))⟩⟩
            · skip
              replace hok := mm_okp hok c8
              refine a_go (by decide) (v_aload_n d_MO_appended_109 rfl ?_)
              refine a_go (by decide) (v_aload_n d_MO_appended_110 rfl ?_)
              refine a_go (by decide) (v_getR d_MO_appended_111 rfl rfl rfl ?_)
              refine a_go (by decide) (v_iload d_MO_appended_114 rfl ?_)
              refine a_go (by decide) (v_bipush d_MO_appended_116 kb_8 ?_)
              refine a_go (by decide) (v_iadd d_MO_appended_118 ?_)
              refine a_go (by decide) (v_iconst d_MO_appended_119 ki_4 ?_)
              refine a_go (by decide) (v_callV d_MO_appended_120 rfl (mm_spl 4 rfl) rfl (Nat.le_of_ble_eq_true rfl) rfl ?_)
              have o12 := And.left hok
              replace hok := And.right hok
              refine (i_m_read rfl o12 ?_)
              refine a_go (by decide) (v_goto d_MO_appended_123 (t := 128) (by decide) ?_)
              refine a_go (by decide) (v_callV d_MO_appended_128 rfl (mm_spl 7 rfl) rfl (Nat.le_of_ble_eq_true rfl) rfl ?_)
              have o13 := And.left hok
              replace hok := And.right hok
              refine (i_m_lineIs o13 ?_)
              refine a_go (by decide) (v_iload d_MO_appended_131 rfl ?_)
              refine a_go (by decide) (v_bipush d_MO_appended_133 kb_64 ?_)
              refine a_go (by decide) (v_idiv d_MO_appended_135 (by decide) ?_)
              refine a_go (by decide) (v_istore d_MO_appended_136 (by decide) ?_)
              refine a_go (by decide) (v_iload d_MO_appended_138 rfl ?_)
              refine a_go (by decide) (v_bipush d_MO_appended_140 kb_16 ?_)
              refine a_go (by decide) (v_iadd d_MO_appended_142 ?_)
              refine a_go (by decide) (v_istore d_MO_appended_143 (by decide) ?_)
              refine a_cut (by decide) ⟨rfl, _, [(0, _), (8, _), (9, _)], (mm_all_c rfl (mm_all_c rfl (mm_all_c rfl (mm_all_n)))), ⟨rfl, _, _, _, rfl, rfl, hok, (mm_mvVS hk (mm_ifn c1 (mm_ifn c2 (mm_ifp c3 (mm_ifn c7 (mm_ifp c8 rfl))))))⟩⟩
          · skip
            replace hok := mm_okp hok c7
            refine a_go (by decide) (v_aload_n d_MO_appended_85 rfl ?_)
            refine a_go (by decide) (v_getR d_MO_appended_86 rfl rfl rfl ?_)
            refine a_go (by decide) (v_iload d_MO_appended_89 rfl ?_)
            refine a_go (by decide) (v_bipush d_MO_appended_91 kb_7 ?_)
            refine a_go (by decide) (v_iadd d_MO_appended_93 ?_)
            have o14 := And.left hok
            replace hok := And.right hok
            refine a_go (by decide) (v_iaload d_MO_appended_94 (by decide) rfl o14 ?_)
            refine a_go (by decide) (v_goto d_MO_appended_95 (t := 100) (by decide) ?_)
            refine a_go (by decide) (v_lload d_MO_appended_100 rfl ?_)
            refine a_go (by decide) (v_ldc2 d_MO_appended_102 rfl ?_)
            refine a_go (by decide) (v_lcmp d_MO_appended_105 ?_)
            refine a_go (by decide) (v_if_ne d_MO_appended_106 (t := 126) (by decide) (fun c9 => ?_) (fun c9 => ?_))
            · skip
              replace hok := mm_okn hok c9
              refine a_go (by decide) (v_lload d_MO_appended_126 rfl ?_)
              refine a_go (by decide) (v_callV d_MO_appended_128 rfl (mm_spl 7 rfl) rfl (Nat.le_of_ble_eq_true rfl) rfl ?_)
              have o15 := And.left hok
              replace hok := And.right hok
              refine (i_m_lineIs o15 ?_)
              refine a_go (by decide) (v_iload d_MO_appended_131 rfl ?_)
              refine a_go (by decide) (v_bipush d_MO_appended_133 kb_64 ?_)
              refine a_go (by decide) (v_idiv d_MO_appended_135 (by decide) ?_)
              refine a_go (by decide) (v_istore d_MO_appended_136 (by decide) ?_)
              refine a_go (by decide) (v_iload d_MO_appended_138 rfl ?_)
              refine a_go (by decide) (v_bipush d_MO_appended_140 kb_16 ?_)
              refine a_go (by decide) (v_iadd d_MO_appended_142 ?_)
              refine a_go (by decide) (v_istore d_MO_appended_143 (by decide) ?_)
              refine a_cut (by decide) ⟨rfl, _, [(0, _), (8, _), (9, _)], (mm_all_c rfl (mm_all_c rfl (mm_all_c rfl (mm_all_n)))), ⟨rfl, _, _, _, rfl, rfl, hok, (mm_mvVS hk (mm_ifn c1 (mm_ifn c2 (mm_ifp c3 (mm_ifp c7 (mm_ifn c9 rfl))))))⟩⟩
            · skip
              replace hok := mm_okp hok c9
              refine a_go (by decide) (v_aload_n d_MO_appended_109 rfl ?_)
              refine a_go (by decide) (v_aload_n d_MO_appended_110 rfl ?_)
              refine a_go (by decide) (v_getR d_MO_appended_111 rfl rfl rfl ?_)
              refine a_go (by decide) (v_iload d_MO_appended_114 rfl ?_)
              refine a_go (by decide) (v_bipush d_MO_appended_116 kb_8 ?_)
              refine a_go (by decide) (v_iadd d_MO_appended_118 ?_)
              refine a_go (by decide) (v_iconst d_MO_appended_119 ki_4 ?_)
              refine a_go (by decide) (v_callV d_MO_appended_120 rfl (mm_spl 4 rfl) rfl (Nat.le_of_ble_eq_true rfl) rfl ?_)
              have o16 := And.left hok
              replace hok := And.right hok
              refine (i_m_read rfl o16 ?_)
              refine a_go (by decide) (v_goto d_MO_appended_123 (t := 128) (by decide) ?_)
              refine a_go (by decide) (v_callV d_MO_appended_128 rfl (mm_spl 7 rfl) rfl (Nat.le_of_ble_eq_true rfl) rfl ?_)
              have o17 := And.left hok
              replace hok := And.right hok
              refine (i_m_lineIs o17 ?_)
              refine a_go (by decide) (v_iload d_MO_appended_131 rfl ?_)
              refine a_go (by decide) (v_bipush d_MO_appended_133 kb_64 ?_)
              refine a_go (by decide) (v_idiv d_MO_appended_135 (by decide) ?_)
              refine a_go (by decide) (v_istore d_MO_appended_136 (by decide) ?_)
              refine a_go (by decide) (v_iload d_MO_appended_138 rfl ?_)
              refine a_go (by decide) (v_bipush d_MO_appended_140 kb_16 ?_)
              refine a_go (by decide) (v_iadd d_MO_appended_142 ?_)
              refine a_go (by decide) (v_istore d_MO_appended_143 (by decide) ?_)
              refine a_cut (by decide) ⟨rfl, _, [(0, _), (8, _), (9, _)], (mm_all_c rfl (mm_all_c rfl (mm_all_c rfl (mm_all_n)))), ⟨rfl, _, _, _, rfl, rfl, hok, (mm_mvVS hk (mm_ifn c1 (mm_ifn c2 (mm_ifp c3 (mm_ifp c7 (mm_ifp c9 rfl))))))⟩⟩
      · skip
        replace hok := mm_okp hok c2
        refine a_go (by decide) (v_aload_n d_MO_appended_45 rfl ?_)
        refine a_go (by decide) (v_getR d_MO_appended_46 rfl rfl rfl ?_)
        refine a_go (by decide) (v_iload d_MO_appended_49 rfl ?_)
        refine a_go (by decide) (v_iconst d_MO_appended_51 ki_5 ?_)
        refine a_go (by decide) (v_iadd d_MO_appended_52 ?_)
        have o18 := And.left hok
        replace hok := And.right hok
        refine a_go (by decide) (v_iaload d_MO_appended_53 (by decide) rfl o18 ?_)
        refine a_go (by decide) (v_goto d_MO_appended_54 (t := 58) (by decide) ?_)
        refine a_go (by decide) (v_iload_n d_MO_appended_58 rfl ?_)
        refine a_go (by decide) (v_bipush d_MO_appended_59 kb_m2 ?_)
        refine a_go (by decide) (v_icmp_ne d_MO_appended_61 (t := 77) (by decide) (fun c10 => ?_) (fun c10 => ?_))
        · skip
          replace hok := mm_okn hok c10
          refine a_go (by decide) (v_iload_n d_MO_appended_77 rfl ?_)
          refine a_go (by decide) (v_iload d_MO_appended_78 rfl ?_)
          refine a_go (by decide) (v_bipush d_MO_appended_80 kb_m2 ?_)
          refine a_go (by decide) (v_icmp_ne d_MO_appended_82 (t := 98) (by decide) (fun c11 => ?_) (fun c11 => ?_))
          · skip
            replace hok := mm_okn hok c11
            refine a_go (by decide) (v_iload d_MO_appended_98 rfl ?_)
            refine a_go (by decide) (v_lload d_MO_appended_100 rfl ?_)
            refine a_go (by decide) (v_ldc2 d_MO_appended_102 rfl ?_)
            refine a_go (by decide) (v_lcmp d_MO_appended_105 ?_)
            refine a_go (by decide) (v_if_ne d_MO_appended_106 (t := 126) (by decide) (fun c12 => ?_) (fun c12 => ?_))
            · skip
              replace hok := mm_okn hok c12
              refine a_go (by decide) (v_lload d_MO_appended_126 rfl ?_)
              refine a_go (by decide) (v_callV d_MO_appended_128 rfl (mm_spl 7 rfl) rfl (Nat.le_of_ble_eq_true rfl) rfl ?_)
              have o19 := And.left hok
              replace hok := And.right hok
              refine (i_m_lineIs o19 ?_)
              refine a_go (by decide) (v_iload d_MO_appended_131 rfl ?_)
              refine a_go (by decide) (v_bipush d_MO_appended_133 kb_64 ?_)
              refine a_go (by decide) (v_idiv d_MO_appended_135 (by decide) ?_)
              refine a_go (by decide) (v_istore d_MO_appended_136 (by decide) ?_)
              refine a_go (by decide) (v_iload d_MO_appended_138 rfl ?_)
              refine a_go (by decide) (v_bipush d_MO_appended_140 kb_16 ?_)
              refine a_go (by decide) (v_iadd d_MO_appended_142 ?_)
              refine a_go (by decide) (v_istore d_MO_appended_143 (by decide) ?_)
              refine a_cut (by decide) ⟨rfl, _, [(0, _), (8, _), (9, _)], (mm_all_c rfl (mm_all_c rfl (mm_all_c rfl (mm_all_n)))), ⟨rfl, _, _, _, rfl, rfl, hok, (mm_mvVS hk (mm_ifn c1 (mm_ifp c2 (mm_ifn c10 (mm_ifn c11 (mm_ifn c12 rfl))))))⟩⟩
            · skip
              replace hok := mm_okp hok c12
              refine a_go (by decide) (v_aload_n d_MO_appended_109 rfl ?_)
              refine a_go (by decide) (v_aload_n d_MO_appended_110 rfl ?_)
              refine a_go (by decide) (v_getR d_MO_appended_111 rfl rfl rfl ?_)
              refine a_go (by decide) (v_iload d_MO_appended_114 rfl ?_)
              refine a_go (by decide) (v_bipush d_MO_appended_116 kb_8 ?_)
              refine a_go (by decide) (v_iadd d_MO_appended_118 ?_)
              refine a_go (by decide) (v_iconst d_MO_appended_119 ki_4 ?_)
              refine a_go (by decide) (v_callV d_MO_appended_120 rfl (mm_spl 4 rfl) rfl (Nat.le_of_ble_eq_true rfl) rfl ?_)
              have o20 := And.left hok
              replace hok := And.right hok
              refine (i_m_read rfl o20 ?_)
              refine a_go (by decide) (v_goto d_MO_appended_123 (t := 128) (by decide) ?_)
              refine a_go (by decide) (v_callV d_MO_appended_128 rfl (mm_spl 7 rfl) rfl (Nat.le_of_ble_eq_true rfl) rfl ?_)
              have o21 := And.left hok
              replace hok := And.right hok
              refine (i_m_lineIs o21 ?_)
              refine a_go (by decide) (v_iload d_MO_appended_131 rfl ?_)
              refine a_go (by decide) (v_bipush d_MO_appended_133 kb_64 ?_)
              refine a_go (by decide) (v_idiv d_MO_appended_135 (by decide) ?_)
              refine a_go (by decide) (v_istore d_MO_appended_136 (by decide) ?_)
              refine a_go (by decide) (v_iload d_MO_appended_138 rfl ?_)
              refine a_go (by decide) (v_bipush d_MO_appended_140 kb_16 ?_)
              refine a_go (by decide) (v_iadd d_MO_appended_142 ?_)
              refine a_go (by decide) (v_istore d_MO_appended_143 (by decide) ?_)
              refine a_cut (by decide) ⟨rfl, _, [(0, _), (8, _), (9, _)], (mm_all_c rfl (mm_all_c rfl (mm_all_c rfl (mm_all_n)))), ⟨rfl, _, _, _, rfl, rfl, hok, (mm_mvVS hk (mm_ifn c1 (mm_ifp c2 (mm_ifn c10 (mm_ifn c11 (mm_ifp c12 rfl))))))⟩⟩
          · skip
            replace hok := mm_okp hok c11
            refine a_go (by decide) (v_aload_n d_MO_appended_85 rfl ?_)
            refine a_go (by decide) (v_getR d_MO_appended_86 rfl rfl rfl ?_)
            refine a_go (by decide) (v_iload d_MO_appended_89 rfl ?_)
            refine a_go (by decide) (v_bipush d_MO_appended_91 kb_7 ?_)
            refine a_go (by decide) (v_iadd d_MO_appended_93 ?_)
            have o22 := And.left hok
            replace hok := And.right hok
            refine a_go (by decide) (v_iaload d_MO_appended_94 (by decide) rfl o22 ?_)
            refine a_go (by decide) (v_goto d_MO_appended_95 (t := 100) (by decide) ?_)
            refine a_go (by decide) (v_lload d_MO_appended_100 rfl ?_)
            refine a_go (by decide) (v_ldc2 d_MO_appended_102 rfl ?_)
            refine a_go (by decide) (v_lcmp d_MO_appended_105 ?_)
            refine a_go (by decide) (v_if_ne d_MO_appended_106 (t := 126) (by decide) (fun c13 => ?_) (fun c13 => ?_))
            · skip
              replace hok := mm_okn hok c13
              refine a_go (by decide) (v_lload d_MO_appended_126 rfl ?_)
              refine a_go (by decide) (v_callV d_MO_appended_128 rfl (mm_spl 7 rfl) rfl (Nat.le_of_ble_eq_true rfl) rfl ?_)
              have o23 := And.left hok
              replace hok := And.right hok
              refine (i_m_lineIs o23 ?_)
              refine a_go (by decide) (v_iload d_MO_appended_131 rfl ?_)
              refine a_go (by decide) (v_bipush d_MO_appended_133 kb_64 ?_)
              refine a_go (by decide) (v_idiv d_MO_appended_135 (by decide) ?_)
              refine a_go (by decide) (v_istore d_MO_appended_136 (by decide) ?_)
              refine a_go (by decide) (v_iload d_MO_appended_138 rfl ?_)
              refine a_go (by decide) (v_bipush d_MO_appended_140 kb_16 ?_)
              refine a_go (by decide) (v_iadd d_MO_appended_142 ?_)
              refine a_go (by decide) (v_istore d_MO_appended_143 (by decide) ?_)
              refine a_cut (by decide) ⟨rfl, _, [(0, _), (8, _), (9, _)], (mm_all_c rfl (mm_all_c rfl (mm_all_c rfl (mm_all_n)))), ⟨rfl, _, _, _, rfl, rfl, hok, (mm_mvVS hk (mm_ifn c1 (mm_ifp c2 (mm_ifn c10 (mm_ifp c11 (mm_ifn c13 rfl))))))⟩⟩
            · skip
              replace hok := mm_okp hok c13
              refine a_go (by decide) (v_aload_n d_MO_appended_109 rfl ?_)
              refine a_go (by decide) (v_aload_n d_MO_appended_110 rfl ?_)
              refine a_go (by decide) (v_getR d_MO_appended_111 rfl rfl rfl ?_)
              refine a_go (by decide) (v_iload d_MO_appended_114 rfl ?_)
              refine a_go (by decide) (v_bipush d_MO_appended_116 kb_8 ?_)
              refine a_go (by decide) (v_iadd d_MO_appended_118 ?_)
              refine a_go (by decide) (v_iconst d_MO_appended_119 ki_4 ?_)
              refine a_go (by decide) (v_callV d_MO_appended_120 rfl (mm_spl 4 rfl) rfl (Nat.le_of_ble_eq_true rfl) rfl ?_)
              have o24 := And.left hok
              replace hok := And.right hok
              refine (i_m_read rfl o24 ?_)
              refine a_go (by decide) (v_goto d_MO_appended_123 (t := 128) (by decide) ?_)
              refine a_go (by decide) (v_callV d_MO_appended_128 rfl (mm_spl 7 rfl) rfl (Nat.le_of_ble_eq_true rfl) rfl ?_)
              have o25 := And.left hok
              replace hok := And.right hok
              refine (i_m_lineIs o25 ?_)
              refine a_go (by decide) (v_iload d_MO_appended_131 rfl ?_)
              refine a_go (by decide) (v_bipush d_MO_appended_133 kb_64 ?_)
              refine a_go (by decide) (v_idiv d_MO_appended_135 (by decide) ?_)
              refine a_go (by decide) (v_istore d_MO_appended_136 (by decide) ?_)
              refine a_go (by decide) (v_iload d_MO_appended_138 rfl ?_)
              refine a_go (by decide) (v_bipush d_MO_appended_140 kb_16 ?_)
              refine a_go (by decide) (v_iadd d_MO_appended_142 ?_)
              refine a_go (by decide) (v_istore d_MO_appended_143 (by decide) ?_)
              refine a_cut (by decide) ⟨rfl, _, [(0, _), (8, _), (9, _)], (mm_all_c rfl (mm_all_c rfl (mm_all_c rfl (mm_all_n)))), ⟨rfl, _, _, _, rfl, rfl, hok, (mm_mvVS hk (mm_ifn c1 (mm_ifp c2 (mm_ifn c10 (mm_ifp c11 (mm_ifp c13 rfl))))))⟩⟩
        · skip
          replace hok := mm_okp hok c10
          refine a_go (by decide) (v_aload_n d_MO_appended_64 rfl ?_)
          refine a_go (by decide) (v_getR d_MO_appended_65 rfl rfl rfl ?_)
          refine a_go (by decide) (v_iload d_MO_appended_68 rfl ?_)
          refine a_go (by decide) (v_bipush d_MO_appended_70 kb_6 ?_)
          refine a_go (by decide) (v_iadd d_MO_appended_72 ?_)
          have o26 := And.left hok
          replace hok := And.right hok
          refine a_go (by decide) (v_iaload d_MO_appended_73 (by decide) rfl o26 ?_)
          refine a_go (by decide) (v_goto d_MO_appended_74 (t := 78) (by decide) ?_)
          refine a_go (by decide) (v_iload d_MO_appended_78 rfl ?_)
          refine a_go (by decide) (v_bipush d_MO_appended_80 kb_m2 ?_)
          refine a_go (by decide) (v_icmp_ne d_MO_appended_82 (t := 98) (by decide) (fun c14 => ?_) (fun c14 => ?_))
          · skip
            replace hok := mm_okn hok c14
            refine a_go (by decide) (v_iload d_MO_appended_98 rfl ?_)
            refine a_go (by decide) (v_lload d_MO_appended_100 rfl ?_)
            refine a_go (by decide) (v_ldc2 d_MO_appended_102 rfl ?_)
            refine a_go (by decide) (v_lcmp d_MO_appended_105 ?_)
            refine a_go (by decide) (v_if_ne d_MO_appended_106 (t := 126) (by decide) (fun c15 => ?_) (fun c15 => ?_))
            · skip
              replace hok := mm_okn hok c15
              refine a_go (by decide) (v_lload d_MO_appended_126 rfl ?_)
              refine a_go (by decide) (v_callV d_MO_appended_128 rfl (mm_spl 7 rfl) rfl (Nat.le_of_ble_eq_true rfl) rfl ?_)
              have o27 := And.left hok
              replace hok := And.right hok
              refine (i_m_lineIs o27 ?_)
              refine a_go (by decide) (v_iload d_MO_appended_131 rfl ?_)
              refine a_go (by decide) (v_bipush d_MO_appended_133 kb_64 ?_)
              refine a_go (by decide) (v_idiv d_MO_appended_135 (by decide) ?_)
              refine a_go (by decide) (v_istore d_MO_appended_136 (by decide) ?_)
              refine a_go (by decide) (v_iload d_MO_appended_138 rfl ?_)
              refine a_go (by decide) (v_bipush d_MO_appended_140 kb_16 ?_)
              refine a_go (by decide) (v_iadd d_MO_appended_142 ?_)
              refine a_go (by decide) (v_istore d_MO_appended_143 (by decide) ?_)
              refine a_cut (by decide) ⟨rfl, _, [(0, _), (8, _), (9, _)], (mm_all_c rfl (mm_all_c rfl (mm_all_c rfl (mm_all_n)))), ⟨rfl, _, _, _, rfl, rfl, hok, (mm_mvVS hk (mm_ifn c1 (mm_ifp c2 (mm_ifp c10 (mm_ifn c14 (mm_ifn c15 rfl))))))⟩⟩
            · skip
              replace hok := mm_okp hok c15
              refine a_go (by decide) (v_aload_n d_MO_appended_109 rfl ?_)
              refine a_go (by decide) (v_aload_n d_MO_appended_110 rfl ?_)
              refine a_go (by decide) (v_getR d_MO_appended_111 rfl rfl rfl ?_)
              refine a_go (by decide) (v_iload d_MO_appended_114 rfl ?_)
              refine a_go (by decide) (v_bipush d_MO_appended_116 kb_8 ?_)
              refine a_go (by decide) (v_iadd d_MO_appended_118 ?_)
              refine a_go (by decide) (v_iconst d_MO_appended_119 ki_4 ?_)
              refine a_go (by decide) (v_callV d_MO_appended_120 rfl (mm_spl 4 rfl) rfl (Nat.le_of_ble_eq_true rfl) rfl ?_)
              have o28 := And.left hok
              replace hok := And.right hok
              refine (i_m_read rfl o28 ?_)
              refine a_go (by decide) (v_goto d_MO_appended_123 (t := 128) (by decide) ?_)
              refine a_go (by decide) (v_callV d_MO_appended_128 rfl (mm_spl 7 rfl) rfl (Nat.le_of_ble_eq_true rfl) rfl ?_)
              have o29 := And.left hok
              replace hok := And.right hok
              refine (i_m_lineIs o29 ?_)
              refine a_go (by decide) (v_iload d_MO_appended_131 rfl ?_)
              refine a_go (by decide) (v_bipush d_MO_appended_133 kb_64 ?_)
              refine a_go (by decide) (v_idiv d_MO_appended_135 (by decide) ?_)
              refine a_go (by decide) (v_istore d_MO_appended_136 (by decide) ?_)
              refine a_go (by decide) (v_iload d_MO_appended_138 rfl ?_)
              refine a_go (by decide) (v_bipush d_MO_appended_140 kb_16 ?_)
              refine a_go (by decide) (v_iadd d_MO_appended_142 ?_)
              refine a_go (by decide) (v_istore d_MO_appended_143 (by decide) ?_)
              refine a_cut (by decide) ⟨rfl, _, [(0, _), (8, _), (9, _)], (mm_all_c rfl (mm_all_c rfl (mm_all_c rfl (mm_all_n)))), ⟨rfl, _, _, _, rfl, rfl, hok, (mm_mvVS hk (mm_ifn c1 (mm_ifp c2 (mm_ifp c10 (mm_ifn c14 (mm_ifp c15 rfl))))))⟩⟩
          · skip
            replace hok := mm_okp hok c14
            refine a_go (by decide) (v_aload_n d_MO_appended_85 rfl ?_)
            refine a_go (by decide) (v_getR d_MO_appended_86 rfl rfl rfl ?_)
            refine a_go (by decide) (v_iload d_MO_appended_89 rfl ?_)
            refine a_go (by decide) (v_bipush d_MO_appended_91 kb_7 ?_)
            refine a_go (by decide) (v_iadd d_MO_appended_93 ?_)
            have o30 := And.left hok
            replace hok := And.right hok
            refine a_go (by decide) (v_iaload d_MO_appended_94 (by decide) rfl o30 ?_)
            refine a_go (by decide) (v_goto d_MO_appended_95 (t := 100) (by decide) ?_)
            refine a_go (by decide) (v_lload d_MO_appended_100 rfl ?_)
            refine a_go (by decide) (v_ldc2 d_MO_appended_102 rfl ?_)
            refine a_go (by decide) (v_lcmp d_MO_appended_105 ?_)
            refine a_go (by decide) (v_if_ne d_MO_appended_106 (t := 126) (by decide) (fun c16 => ?_) (fun c16 => ?_))
            · skip
              replace hok := mm_okn hok c16
              refine a_go (by decide) (v_lload d_MO_appended_126 rfl ?_)
              refine a_go (by decide) (v_callV d_MO_appended_128 rfl (mm_spl 7 rfl) rfl (Nat.le_of_ble_eq_true rfl) rfl ?_)
              have o31 := And.left hok
              replace hok := And.right hok
              refine (i_m_lineIs o31 ?_)
              refine a_go (by decide) (v_iload d_MO_appended_131 rfl ?_)
              refine a_go (by decide) (v_bipush d_MO_appended_133 kb_64 ?_)
              refine a_go (by decide) (v_idiv d_MO_appended_135 (by decide) ?_)
              refine a_go (by decide) (v_istore d_MO_appended_136 (by decide) ?_)
              refine a_go (by decide) (v_iload d_MO_appended_138 rfl ?_)
              refine a_go (by decide) (v_bipush d_MO_appended_140 kb_16 ?_)
              refine a_go (by decide) (v_iadd d_MO_appended_142 ?_)
              refine a_go (by decide) (v_istore d_MO_appended_143 (by decide) ?_)
              refine a_cut (by decide) ⟨rfl, _, [(0, _), (8, _), (9, _)], (mm_all_c rfl (mm_all_c rfl (mm_all_c rfl (mm_all_n)))), ⟨rfl, _, _, _, rfl, rfl, hok, (mm_mvVS hk (mm_ifn c1 (mm_ifp c2 (mm_ifp c10 (mm_ifp c14 (mm_ifn c16 rfl))))))⟩⟩
            · skip
              replace hok := mm_okp hok c16
              refine a_go (by decide) (v_aload_n d_MO_appended_109 rfl ?_)
              refine a_go (by decide) (v_aload_n d_MO_appended_110 rfl ?_)
              refine a_go (by decide) (v_getR d_MO_appended_111 rfl rfl rfl ?_)
              refine a_go (by decide) (v_iload d_MO_appended_114 rfl ?_)
              refine a_go (by decide) (v_bipush d_MO_appended_116 kb_8 ?_)
              refine a_go (by decide) (v_iadd d_MO_appended_118 ?_)
              refine a_go (by decide) (v_iconst d_MO_appended_119 ki_4 ?_)
              refine a_go (by decide) (v_callV d_MO_appended_120 rfl (mm_spl 4 rfl) rfl (Nat.le_of_ble_eq_true rfl) rfl ?_)
              have o32 := And.left hok
              replace hok := And.right hok
              refine (i_m_read rfl o32 ?_)
              refine a_go (by decide) (v_goto d_MO_appended_123 (t := 128) (by decide) ?_)
              refine a_go (by decide) (v_callV d_MO_appended_128 rfl (mm_spl 7 rfl) rfl (Nat.le_of_ble_eq_true rfl) rfl ?_)
              have o33 := And.left hok
              replace hok := And.right hok
              refine (i_m_lineIs o33 ?_)
              refine a_go (by decide) (v_iload d_MO_appended_131 rfl ?_)
              refine a_go (by decide) (v_bipush d_MO_appended_133 kb_64 ?_)
              refine a_go (by decide) (v_idiv d_MO_appended_135 (by decide) ?_)
              refine a_go (by decide) (v_istore d_MO_appended_136 (by decide) ?_)
              refine a_go (by decide) (v_iload d_MO_appended_138 rfl ?_)
              refine a_go (by decide) (v_bipush d_MO_appended_140 kb_16 ?_)
              refine a_go (by decide) (v_iadd d_MO_appended_142 ?_)
              refine a_go (by decide) (v_istore d_MO_appended_143 (by decide) ?_)
              refine a_cut (by decide) ⟨rfl, _, [(0, _), (8, _), (9, _)], (mm_all_c rfl (mm_all_c rfl (mm_all_c rfl (mm_all_n)))), ⟨rfl, _, _, _, rfl, rfl, hok, (mm_mvVS hk (mm_ifn c1 (mm_ifp c2 (mm_ifp c10 (mm_ifp c14 (mm_ifp c16 rfl))))))⟩⟩
    · skip
      replace hok := mm_okp hok c1
      refine a_go (by decide) (v_aload_n d_MO_appended_26 rfl ?_)
      refine a_go (by decide) (v_getR d_MO_appended_27 rfl rfl rfl ?_)
      refine a_go (by decide) (v_iload d_MO_appended_30 rfl ?_)
      refine a_go (by decide) (v_iconst d_MO_appended_32 ki_4 ?_)
      refine a_go (by decide) (v_iadd d_MO_appended_33 ?_)
      have o34 := And.left hok
      replace hok := And.right hok
      refine a_go (by decide) (v_iaload d_MO_appended_34 (by decide) rfl o34 ?_)
      refine a_go (by decide) (v_goto d_MO_appended_35 (t := 39) (by decide) ?_)
      refine a_go (by decide) (v_iload_n d_MO_appended_39 rfl ?_)
      refine a_go (by decide) (v_bipush d_MO_appended_40 kb_m2 ?_)
      refine a_go (by decide) (v_icmp_ne d_MO_appended_42 (t := 57) (by decide) (fun c17 => ?_) (fun c17 => ?_))
      · skip
        replace hok := mm_okn hok c17
        refine a_go (by decide) (v_iload_n d_MO_appended_57 rfl ?_)
        refine a_go (by decide) (v_iload_n d_MO_appended_58 rfl ?_)
        refine a_go (by decide) (v_bipush d_MO_appended_59 kb_m2 ?_)
        refine a_go (by decide) (v_icmp_ne d_MO_appended_61 (t := 77) (by decide) (fun c18 => ?_) (fun c18 => ?_))
        · skip
          replace hok := mm_okn hok c18
          refine a_go (by decide) (v_iload_n d_MO_appended_77 rfl ?_)
          refine a_go (by decide) (v_iload d_MO_appended_78 rfl ?_)
          refine a_go (by decide) (v_bipush d_MO_appended_80 kb_m2 ?_)
          refine a_go (by decide) (v_icmp_ne d_MO_appended_82 (t := 98) (by decide) (fun c19 => ?_) (fun c19 => ?_))
          · skip
            replace hok := mm_okn hok c19
            refine a_go (by decide) (v_iload d_MO_appended_98 rfl ?_)
            refine a_go (by decide) (v_lload d_MO_appended_100 rfl ?_)
            refine a_go (by decide) (v_ldc2 d_MO_appended_102 rfl ?_)
            refine a_go (by decide) (v_lcmp d_MO_appended_105 ?_)
            refine a_go (by decide) (v_if_ne d_MO_appended_106 (t := 126) (by decide) (fun c20 => ?_) (fun c20 => ?_))
            · skip
              replace hok := mm_okn hok c20
              refine a_go (by decide) (v_lload d_MO_appended_126 rfl ?_)
              refine a_go (by decide) (v_callV d_MO_appended_128 rfl (mm_spl 7 rfl) rfl (Nat.le_of_ble_eq_true rfl) rfl ?_)
              have o35 := And.left hok
              replace hok := And.right hok
              refine (i_m_lineIs o35 ?_)
              refine a_go (by decide) (v_iload d_MO_appended_131 rfl ?_)
              refine a_go (by decide) (v_bipush d_MO_appended_133 kb_64 ?_)
              refine a_go (by decide) (v_idiv d_MO_appended_135 (by decide) ?_)
              refine a_go (by decide) (v_istore d_MO_appended_136 (by decide) ?_)
              refine a_go (by decide) (v_iload d_MO_appended_138 rfl ?_)
              refine a_go (by decide) (v_bipush d_MO_appended_140 kb_16 ?_)
              refine a_go (by decide) (v_iadd d_MO_appended_142 ?_)
              refine a_go (by decide) (v_istore d_MO_appended_143 (by decide) ?_)
              refine a_cut (by decide) ⟨rfl, _, [(0, _), (8, _), (9, _)], (mm_all_c rfl (mm_all_c rfl (mm_all_c rfl (mm_all_n)))), ⟨rfl, _, _, _, rfl, rfl, hok, (mm_mvVS hk (mm_ifp c1 (mm_ifn c17 (mm_ifn c18 (mm_ifn c19 (mm_ifn c20 rfl))))))⟩⟩
            · skip
              replace hok := mm_okp hok c20
              refine a_go (by decide) (v_aload_n d_MO_appended_109 rfl ?_)
              refine a_go (by decide) (v_aload_n d_MO_appended_110 rfl ?_)
              refine a_go (by decide) (v_getR d_MO_appended_111 rfl rfl rfl ?_)
              refine a_go (by decide) (v_iload d_MO_appended_114 rfl ?_)
              refine a_go (by decide) (v_bipush d_MO_appended_116 kb_8 ?_)
              refine a_go (by decide) (v_iadd d_MO_appended_118 ?_)
              refine a_go (by decide) (v_iconst d_MO_appended_119 ki_4 ?_)
              refine a_go (by decide) (v_callV d_MO_appended_120 rfl (mm_spl 4 rfl) rfl (Nat.le_of_ble_eq_true rfl) rfl ?_)
              have o36 := And.left hok
              replace hok := And.right hok
              refine (i_m_read rfl o36 ?_)
              refine a_go (by decide) (v_goto d_MO_appended_123 (t := 128) (by decide) ?_)
              refine a_go (by decide) (v_callV d_MO_appended_128 rfl (mm_spl 7 rfl) rfl (Nat.le_of_ble_eq_true rfl) rfl ?_)
              have o37 := And.left hok
              replace hok := And.right hok
              refine (i_m_lineIs o37 ?_)
              refine a_go (by decide) (v_iload d_MO_appended_131 rfl ?_)
              refine a_go (by decide) (v_bipush d_MO_appended_133 kb_64 ?_)
              refine a_go (by decide) (v_idiv d_MO_appended_135 (by decide) ?_)
              refine a_go (by decide) (v_istore d_MO_appended_136 (by decide) ?_)
              refine a_go (by decide) (v_iload d_MO_appended_138 rfl ?_)
              refine a_go (by decide) (v_bipush d_MO_appended_140 kb_16 ?_)
              refine a_go (by decide) (v_iadd d_MO_appended_142 ?_)
              refine a_go (by decide) (v_istore d_MO_appended_143 (by decide) ?_)
              refine a_cut (by decide) ⟨rfl, _, [(0, _), (8, _), (9, _)], (mm_all_c rfl (mm_all_c rfl (mm_all_c rfl (mm_all_n)))), ⟨rfl, _, _, _, rfl, rfl, hok, (mm_mvVS hk (mm_ifp c1 (mm_ifn c17 (mm_ifn c18 (mm_ifn c19 (mm_ifp c20 rfl))))))⟩⟩
          · skip
            replace hok := mm_okp hok c19
            refine a_go (by decide) (v_aload_n d_MO_appended_85 rfl ?_)
            refine a_go (by decide) (v_getR d_MO_appended_86 rfl rfl rfl ?_)
            refine a_go (by decide) (v_iload d_MO_appended_89 rfl ?_)
            refine a_go (by decide) (v_bipush d_MO_appended_91 kb_7 ?_)
            refine a_go (by decide) (v_iadd d_MO_appended_93 ?_)
            have o38 := And.left hok
            replace hok := And.right hok
            refine a_go (by decide) (v_iaload d_MO_appended_94 (by decide) rfl o38 ?_)
            refine a_go (by decide) (v_goto d_MO_appended_95 (t := 100) (by decide) ?_)
            refine a_go (by decide) (v_lload d_MO_appended_100 rfl ?_)
            refine a_go (by decide) (v_ldc2 d_MO_appended_102 rfl ?_)
            refine a_go (by decide) (v_lcmp d_MO_appended_105 ?_)
            refine a_go (by decide) (v_if_ne d_MO_appended_106 (t := 126) (by decide) (fun c21 => ?_) (fun c21 => ?_))
            · skip
              replace hok := mm_okn hok c21
              refine a_go (by decide) (v_lload d_MO_appended_126 rfl ?_)
              refine a_go (by decide) (v_callV d_MO_appended_128 rfl (mm_spl 7 rfl) rfl (Nat.le_of_ble_eq_true rfl) rfl ?_)
              have o39 := And.left hok
              replace hok := And.right hok
              refine (i_m_lineIs o39 ?_)
              refine a_go (by decide) (v_iload d_MO_appended_131 rfl ?_)
              refine a_go (by decide) (v_bipush d_MO_appended_133 kb_64 ?_)
              refine a_go (by decide) (v_idiv d_MO_appended_135 (by decide) ?_)
              refine a_go (by decide) (v_istore d_MO_appended_136 (by decide) ?_)
              refine a_go (by decide) (v_iload d_MO_appended_138 rfl ?_)
              refine a_go (by decide) (v_bipush d_MO_appended_140 kb_16 ?_)
              refine a_go (by decide) (v_iadd d_MO_appended_142 ?_)
              refine a_go (by decide) (v_istore d_MO_appended_143 (by decide) ?_)
              refine a_cut (by decide) ⟨rfl, _, [(0, _), (8, _), (9, _)], (mm_all_c rfl (mm_all_c rfl (mm_all_c rfl (mm_all_n)))), ⟨rfl, _, _, _, rfl, rfl, hok, (mm_mvVS hk (mm_ifp c1 (mm_ifn c17 (mm_ifn c18 (mm_ifp c19 (mm_ifn c21 rfl))))))⟩⟩
            · skip
              replace hok := mm_okp hok c21
              refine a_go (by decide) (v_aload_n d_MO_appended_109 rfl ?_)
              refine a_go (by decide) (v_aload_n d_MO_appended_110 rfl ?_)
              refine a_go (by decide) (v_getR d_MO_appended_111 rfl rfl rfl ?_)
              refine a_go (by decide) (v_iload d_MO_appended_114 rfl ?_)
              refine a_go (by decide) (v_bipush d_MO_appended_116 kb_8 ?_)
              refine a_go (by decide) (v_iadd d_MO_appended_118 ?_)
              refine a_go (by decide) (v_iconst d_MO_appended_119 ki_4 ?_)
              refine a_go (by decide) (v_callV d_MO_appended_120 rfl (mm_spl 4 rfl) rfl (Nat.le_of_ble_eq_true rfl) rfl ?_)
              have o40 := And.left hok
              replace hok := And.right hok
              refine (i_m_read rfl o40 ?_)
              refine a_go (by decide) (v_goto d_MO_appended_123 (t := 128) (by decide) ?_)
              refine a_go (by decide) (v_callV d_MO_appended_128 rfl (mm_spl 7 rfl) rfl (Nat.le_of_ble_eq_true rfl) rfl ?_)
              have o41 := And.left hok
              replace hok := And.right hok
              refine (i_m_lineIs o41 ?_)
              refine a_go (by decide) (v_iload d_MO_appended_131 rfl ?_)
              refine a_go (by decide) (v_bipush d_MO_appended_133 kb_64 ?_)
              refine a_go (by decide) (v_idiv d_MO_appended_135 (by decide) ?_)
              refine a_go (by decide) (v_istore d_MO_appended_136 (by decide) ?_)
              refine a_go (by decide) (v_iload d_MO_appended_138 rfl ?_)
              refine a_go (by decide) (v_bipush d_MO_appended_140 kb_16 ?_)
              refine a_go (by decide) (v_iadd d_MO_appended_142 ?_)
              refine a_go (by decide) (v_istore d_MO_appended_143 (by decide) ?_)
              refine a_cut (by decide) ⟨rfl, _, [(0, _), (8, _), (9, _)], (mm_all_c rfl (mm_all_c rfl (mm_all_c rfl (mm_all_n)))), ⟨rfl, _, _, _, rfl, rfl, hok, (mm_mvVS hk (mm_ifp c1 (mm_ifn c17 (mm_ifn c18 (mm_ifp c19 (mm_ifp c21 rfl))))))⟩⟩
        · skip
          replace hok := mm_okp hok c18
          refine a_go (by decide) (v_aload_n d_MO_appended_64 rfl ?_)
          refine a_go (by decide) (v_getR d_MO_appended_65 rfl rfl rfl ?_)
          refine a_go (by decide) (v_iload d_MO_appended_68 rfl ?_)
          refine a_go (by decide) (v_bipush d_MO_appended_70 kb_6 ?_)
          refine a_go (by decide) (v_iadd d_MO_appended_72 ?_)
          have o42 := And.left hok
          replace hok := And.right hok
          refine a_go (by decide) (v_iaload d_MO_appended_73 (by decide) rfl o42 ?_)
          refine a_go (by decide) (v_goto d_MO_appended_74 (t := 78) (by decide) ?_)
          refine a_go (by decide) (v_iload d_MO_appended_78 rfl ?_)
          refine a_go (by decide) (v_bipush d_MO_appended_80 kb_m2 ?_)
          refine a_go (by decide) (v_icmp_ne d_MO_appended_82 (t := 98) (by decide) (fun c22 => ?_) (fun c22 => ?_))
          · skip
            replace hok := mm_okn hok c22
            refine a_go (by decide) (v_iload d_MO_appended_98 rfl ?_)
            refine a_go (by decide) (v_lload d_MO_appended_100 rfl ?_)
            refine a_go (by decide) (v_ldc2 d_MO_appended_102 rfl ?_)
            refine a_go (by decide) (v_lcmp d_MO_appended_105 ?_)
            refine a_go (by decide) (v_if_ne d_MO_appended_106 (t := 126) (by decide) (fun c23 => ?_) (fun c23 => ?_))
            · skip
              replace hok := mm_okn hok c23
              refine a_go (by decide) (v_lload d_MO_appended_126 rfl ?_)
              refine a_go (by decide) (v_callV d_MO_appended_128 rfl (mm_spl 7 rfl) rfl (Nat.le_of_ble_eq_true rfl) rfl ?_)
              have o43 := And.left hok
              replace hok := And.right hok
              refine (i_m_lineIs o43 ?_)
              refine a_go (by decide) (v_iload d_MO_appended_131 rfl ?_)
              refine a_go (by decide) (v_bipush d_MO_appended_133 kb_64 ?_)
              refine a_go (by decide) (v_idiv d_MO_appended_135 (by decide) ?_)
              refine a_go (by decide) (v_istore d_MO_appended_136 (by decide) ?_)
              refine a_go (by decide) (v_iload d_MO_appended_138 rfl ?_)
              refine a_go (by decide) (v_bipush d_MO_appended_140 kb_16 ?_)
              refine a_go (by decide) (v_iadd d_MO_appended_142 ?_)
              refine a_go (by decide) (v_istore d_MO_appended_143 (by decide) ?_)
              refine a_cut (by decide) ⟨rfl, _, [(0, _), (8, _), (9, _)], (mm_all_c rfl (mm_all_c rfl (mm_all_c rfl (mm_all_n)))), ⟨rfl, _, _, _, rfl, rfl, hok, (mm_mvVS hk (mm_ifp c1 (mm_ifn c17 (mm_ifp c18 (mm_ifn c22 (mm_ifn c23 rfl))))))⟩⟩
            · skip
              replace hok := mm_okp hok c23
              refine a_go (by decide) (v_aload_n d_MO_appended_109 rfl ?_)
              refine a_go (by decide) (v_aload_n d_MO_appended_110 rfl ?_)
              refine a_go (by decide) (v_getR d_MO_appended_111 rfl rfl rfl ?_)
              refine a_go (by decide) (v_iload d_MO_appended_114 rfl ?_)
              refine a_go (by decide) (v_bipush d_MO_appended_116 kb_8 ?_)
              refine a_go (by decide) (v_iadd d_MO_appended_118 ?_)
              refine a_go (by decide) (v_iconst d_MO_appended_119 ki_4 ?_)
              refine a_go (by decide) (v_callV d_MO_appended_120 rfl (mm_spl 4 rfl) rfl (Nat.le_of_ble_eq_true rfl) rfl ?_)
              have o44 := And.left hok
              replace hok := And.right hok
              refine (i_m_read rfl o44 ?_)
              refine a_go (by decide) (v_goto d_MO_appended_123 (t := 128) (by decide) ?_)
              refine a_go (by decide) (v_callV d_MO_appended_128 rfl (mm_spl 7 rfl) rfl (Nat.le_of_ble_eq_true rfl) rfl ?_)
              have o45 := And.left hok
              replace hok := And.right hok
              refine (i_m_lineIs o45 ?_)
              refine a_go (by decide) (v_iload d_MO_appended_131 rfl ?_)
              refine a_go (by decide) (v_bipush d_MO_appended_133 kb_64 ?_)
              refine a_go (by decide) (v_idiv d_MO_appended_135 (by decide) ?_)
              refine a_go (by decide) (v_istore d_MO_appended_136 (by decide) ?_)
              refine a_go (by decide) (v_iload d_MO_appended_138 rfl ?_)
              refine a_go (by decide) (v_bipush d_MO_appended_140 kb_16 ?_)
              refine a_go (by decide) (v_iadd d_MO_appended_142 ?_)
              refine a_go (by decide) (v_istore d_MO_appended_143 (by decide) ?_)
              refine a_cut (by decide) ⟨rfl, _, [(0, _), (8, _), (9, _)], (mm_all_c rfl (mm_all_c rfl (mm_all_c rfl (mm_all_n)))), ⟨rfl, _, _, _, rfl, rfl, hok, (mm_mvVS hk (mm_ifp c1 (mm_ifn c17 (mm_ifp c18 (mm_ifn c22 (mm_ifp c23 rfl))))))⟩⟩
          · skip
            replace hok := mm_okp hok c22
            refine a_go (by decide) (v_aload_n d_MO_appended_85 rfl ?_)
            refine a_go (by decide) (v_getR d_MO_appended_86 rfl rfl rfl ?_)
            refine a_go (by decide) (v_iload d_MO_appended_89 rfl ?_)
            refine a_go (by decide) (v_bipush d_MO_appended_91 kb_7 ?_)
            refine a_go (by decide) (v_iadd d_MO_appended_93 ?_)
            have o46 := And.left hok
            replace hok := And.right hok
            refine a_go (by decide) (v_iaload d_MO_appended_94 (by decide) rfl o46 ?_)
            refine a_go (by decide) (v_goto d_MO_appended_95 (t := 100) (by decide) ?_)
            refine a_go (by decide) (v_lload d_MO_appended_100 rfl ?_)
            refine a_go (by decide) (v_ldc2 d_MO_appended_102 rfl ?_)
            refine a_go (by decide) (v_lcmp d_MO_appended_105 ?_)
            refine a_go (by decide) (v_if_ne d_MO_appended_106 (t := 126) (by decide) (fun c24 => ?_) (fun c24 => ?_))
            · skip
              replace hok := mm_okn hok c24
              refine a_go (by decide) (v_lload d_MO_appended_126 rfl ?_)
              refine a_go (by decide) (v_callV d_MO_appended_128 rfl (mm_spl 7 rfl) rfl (Nat.le_of_ble_eq_true rfl) rfl ?_)
              have o47 := And.left hok
              replace hok := And.right hok
              refine (i_m_lineIs o47 ?_)
              refine a_go (by decide) (v_iload d_MO_appended_131 rfl ?_)
              refine a_go (by decide) (v_bipush d_MO_appended_133 kb_64 ?_)
              refine a_go (by decide) (v_idiv d_MO_appended_135 (by decide) ?_)
              refine a_go (by decide) (v_istore d_MO_appended_136 (by decide) ?_)
              refine a_go (by decide) (v_iload d_MO_appended_138 rfl ?_)
              refine a_go (by decide) (v_bipush d_MO_appended_140 kb_16 ?_)
              refine a_go (by decide) (v_iadd d_MO_appended_142 ?_)
              refine a_go (by decide) (v_istore d_MO_appended_143 (by decide) ?_)
              refine a_cut (by decide) ⟨rfl, _, [(0, _), (8, _), (9, _)], (mm_all_c rfl (mm_all_c rfl (mm_all_c rfl (mm_all_n)))), ⟨rfl, _, _, _, rfl, rfl, hok, (mm_mvVS hk (mm_ifp c1 (mm_ifn c17 (mm_ifp c18 (mm_ifp c22 (mm_ifn c24 rfl))))))⟩⟩
            · skip
              replace hok := mm_okp hok c24
              refine a_go (by decide) (v_aload_n d_MO_appended_109 rfl ?_)
              refine a_go (by decide) (v_aload_n d_MO_appended_110 rfl ?_)
              refine a_go (by decide) (v_getR d_MO_appended_111 rfl rfl rfl ?_)
              refine a_go (by decide) (v_iload d_MO_appended_114 rfl ?_)
              refine a_go (by decide) (v_bipush d_MO_appended_116 kb_8 ?_)
              refine a_go (by decide) (v_iadd d_MO_appended_118 ?_)
              refine a_go (by decide) (v_iconst d_MO_appended_119 ki_4 ?_)
              refine a_go (by decide) (v_callV d_MO_appended_120 rfl (mm_spl 4 rfl) rfl (Nat.le_of_ble_eq_true rfl) rfl ?_)
              have o48 := And.left hok
              replace hok := And.right hok
              refine (i_m_read rfl o48 ?_)
              refine a_go (by decide) (v_goto d_MO_appended_123 (t := 128) (by decide) ?_)
              refine a_go (by decide) (v_callV d_MO_appended_128 rfl (mm_spl 7 rfl) rfl (Nat.le_of_ble_eq_true rfl) rfl ?_)
              have o49 := And.left hok
              replace hok := And.right hok
              refine (i_m_lineIs o49 ?_)
              refine a_go (by decide) (v_iload d_MO_appended_131 rfl ?_)
              refine a_go (by decide) (v_bipush d_MO_appended_133 kb_64 ?_)
              refine a_go (by decide) (v_idiv d_MO_appended_135 (by decide) ?_)
              refine a_go (by decide) (v_istore d_MO_appended_136 (by decide) ?_)
              refine a_go (by decide) (v_iload d_MO_appended_138 rfl ?_)
              refine a_go (by decide) (v_bipush d_MO_appended_140 kb_16 ?_)
              refine a_go (by decide) (v_iadd d_MO_appended_142 ?_)
              refine a_go (by decide) (v_istore d_MO_appended_143 (by decide) ?_)
              refine a_cut (by decide) ⟨rfl, _, [(0, _), (8, _), (9, _)], (mm_all_c rfl (mm_all_c rfl (mm_all_c rfl (mm_all_n)))), ⟨rfl, _, _, _, rfl, rfl, hok, (mm_mvVS hk (mm_ifp c1 (mm_ifn c17 (mm_ifp c18 (mm_ifp c22 (mm_ifp c24 rfl))))))⟩⟩
      · skip
        replace hok := mm_okp hok c17
        refine a_go (by decide) (v_aload_n d_MO_appended_45 rfl ?_)
        refine a_go (by decide) (v_getR d_MO_appended_46 rfl rfl rfl ?_)
        refine a_go (by decide) (v_iload d_MO_appended_49 rfl ?_)
        refine a_go (by decide) (v_iconst d_MO_appended_51 ki_5 ?_)
        refine a_go (by decide) (v_iadd d_MO_appended_52 ?_)
        have o50 := And.left hok
        replace hok := And.right hok
        refine a_go (by decide) (v_iaload d_MO_appended_53 (by decide) rfl o50 ?_)
        refine a_go (by decide) (v_goto d_MO_appended_54 (t := 58) (by decide) ?_)
        refine a_go (by decide) (v_iload_n d_MO_appended_58 rfl ?_)
        refine a_go (by decide) (v_bipush d_MO_appended_59 kb_m2 ?_)
        refine a_go (by decide) (v_icmp_ne d_MO_appended_61 (t := 77) (by decide) (fun c25 => ?_) (fun c25 => ?_))
        · skip
          replace hok := mm_okn hok c25
          refine a_go (by decide) (v_iload_n d_MO_appended_77 rfl ?_)
          refine a_go (by decide) (v_iload d_MO_appended_78 rfl ?_)
          refine a_go (by decide) (v_bipush d_MO_appended_80 kb_m2 ?_)
          refine a_go (by decide) (v_icmp_ne d_MO_appended_82 (t := 98) (by decide) (fun c26 => ?_) (fun c26 => ?_))
          · skip
            replace hok := mm_okn hok c26
            refine a_go (by decide) (v_iload d_MO_appended_98 rfl ?_)
            refine a_go (by decide) (v_lload d_MO_appended_100 rfl ?_)
            refine a_go (by decide) (v_ldc2 d_MO_appended_102 rfl ?_)
            refine a_go (by decide) (v_lcmp d_MO_appended_105 ?_)
            refine a_go (by decide) (v_if_ne d_MO_appended_106 (t := 126) (by decide) (fun c27 => ?_) (fun c27 => ?_))
            · skip
              replace hok := mm_okn hok c27
              refine a_go (by decide) (v_lload d_MO_appended_126 rfl ?_)
              refine a_go (by decide) (v_callV d_MO_appended_128 rfl (mm_spl 7 rfl) rfl (Nat.le_of_ble_eq_true rfl) rfl ?_)
              have o51 := And.left hok
              replace hok := And.right hok
              refine (i_m_lineIs o51 ?_)
              refine a_go (by decide) (v_iload d_MO_appended_131 rfl ?_)
              refine a_go (by decide) (v_bipush d_MO_appended_133 kb_64 ?_)
              refine a_go (by decide) (v_idiv d_MO_appended_135 (by decide) ?_)
              refine a_go (by decide) (v_istore d_MO_appended_136 (by decide) ?_)
              refine a_go (by decide) (v_iload d_MO_appended_138 rfl ?_)
              refine a_go (by decide) (v_bipush d_MO_appended_140 kb_16 ?_)
              refine a_go (by decide) (v_iadd d_MO_appended_142 ?_)
              refine a_go (by decide) (v_istore d_MO_appended_143 (by decide) ?_)
              refine a_cut (by decide) ⟨rfl, _, [(0, _), (8, _), (9, _)], (mm_all_c rfl (mm_all_c rfl (mm_all_c rfl (mm_all_n)))), ⟨rfl, _, _, _, rfl, rfl, hok, (mm_mvVS hk (mm_ifp c1 (mm_ifp c17 (mm_ifn c25 (mm_ifn c26 (mm_ifn c27 rfl))))))⟩⟩
            · skip
              replace hok := mm_okp hok c27
              refine a_go (by decide) (v_aload_n d_MO_appended_109 rfl ?_)
              refine a_go (by decide) (v_aload_n d_MO_appended_110 rfl ?_)
              refine a_go (by decide) (v_getR d_MO_appended_111 rfl rfl rfl ?_)
              refine a_go (by decide) (v_iload d_MO_appended_114 rfl ?_)
              refine a_go (by decide) (v_bipush d_MO_appended_116 kb_8 ?_)
              refine a_go (by decide) (v_iadd d_MO_appended_118 ?_)
              refine a_go (by decide) (v_iconst d_MO_appended_119 ki_4 ?_)
              refine a_go (by decide) (v_callV d_MO_appended_120 rfl (mm_spl 4 rfl) rfl (Nat.le_of_ble_eq_true rfl) rfl ?_)
              have o52 := And.left hok
              replace hok := And.right hok
              refine (i_m_read rfl o52 ?_)
              refine a_go (by decide) (v_goto d_MO_appended_123 (t := 128) (by decide) ?_)
              refine a_go (by decide) (v_callV d_MO_appended_128 rfl (mm_spl 7 rfl) rfl (Nat.le_of_ble_eq_true rfl) rfl ?_)
              have o53 := And.left hok
              replace hok := And.right hok
              refine (i_m_lineIs o53 ?_)
              refine a_go (by decide) (v_iload d_MO_appended_131 rfl ?_)
              refine a_go (by decide) (v_bipush d_MO_appended_133 kb_64 ?_)
              refine a_go (by decide) (v_idiv d_MO_appended_135 (by decide) ?_)
              refine a_go (by decide) (v_istore d_MO_appended_136 (by decide) ?_)
              refine a_go (by decide) (v_iload d_MO_appended_138 rfl ?_)
              refine a_go (by decide) (v_bipush d_MO_appended_140 kb_16 ?_)
              refine a_go (by decide) (v_iadd d_MO_appended_142 ?_)
              refine a_go (by decide) (v_istore d_MO_appended_143 (by decide) ?_)
              refine a_cut (by decide) ⟨rfl, _, [(0, _), (8, _), (9, _)], (mm_all_c rfl (mm_all_c rfl (mm_all_c rfl (mm_all_n)))), ⟨rfl, _, _, _, rfl, rfl, hok, (mm_mvVS hk (mm_ifp c1 (mm_ifp c17 (mm_ifn c25 (mm_ifn c26 (mm_ifp c27 rfl))))))⟩⟩
          · skip
            replace hok := mm_okp hok c26
            refine a_go (by decide) (v_aload_n d_MO_appended_85 rfl ?_)
            refine a_go (by decide) (v_getR d_MO_appended_86 rfl rfl rfl ?_)
            refine a_go (by decide) (v_iload d_MO_appended_89 rfl ?_)
            refine a_go (by decide) (v_bipush d_MO_appended_91 kb_7 ?_)
            refine a_go (by decide) (v_iadd d_MO_appended_93 ?_)
            have o54 := And.left hok
            replace hok := And.right hok
            refine a_go (by decide) (v_iaload d_MO_appended_94 (by decide) rfl o54 ?_)
            refine a_go (by decide) (v_goto d_MO_appended_95 (t := 100) (by decide) ?_)
            refine a_go (by decide) (v_lload d_MO_appended_100 rfl ?_)
            refine a_go (by decide) (v_ldc2 d_MO_appended_102 rfl ?_)
            refine a_go (by decide) (v_lcmp d_MO_appended_105 ?_)
            refine a_go (by decide) (v_if_ne d_MO_appended_106 (t := 126) (by decide) (fun c28 => ?_) (fun c28 => ?_))
            · skip
              replace hok := mm_okn hok c28
              refine a_go (by decide) (v_lload d_MO_appended_126 rfl ?_)
              refine a_go (by decide) (v_callV d_MO_appended_128 rfl (mm_spl 7 rfl) rfl (Nat.le_of_ble_eq_true rfl) rfl ?_)
              have o55 := And.left hok
              replace hok := And.right hok
              refine (i_m_lineIs o55 ?_)
              refine a_go (by decide) (v_iload d_MO_appended_131 rfl ?_)
              refine a_go (by decide) (v_bipush d_MO_appended_133 kb_64 ?_)
              refine a_go (by decide) (v_idiv d_MO_appended_135 (by decide) ?_)
              refine a_go (by decide) (v_istore d_MO_appended_136 (by decide) ?_)
              refine a_go (by decide) (v_iload d_MO_appended_138 rfl ?_)
              refine a_go (by decide) (v_bipush d_MO_appended_140 kb_16 ?_)
              refine a_go (by decide) (v_iadd d_MO_appended_142 ?_)
              refine a_go (by decide) (v_istore d_MO_appended_143 (by decide) ?_)
              refine a_cut (by decide) ⟨rfl, _, [(0, _), (8, _), (9, _)], (mm_all_c rfl (mm_all_c rfl (mm_all_c rfl (mm_all_n)))), ⟨rfl, _, _, _, rfl, rfl, hok, (mm_mvVS hk (mm_ifp c1 (mm_ifp c17 (mm_ifn c25 (mm_ifp c26 (mm_ifn c28 rfl))))))⟩⟩
            · skip
              replace hok := mm_okp hok c28
              refine a_go (by decide) (v_aload_n d_MO_appended_109 rfl ?_)
              refine a_go (by decide) (v_aload_n d_MO_appended_110 rfl ?_)
              refine a_go (by decide) (v_getR d_MO_appended_111 rfl rfl rfl ?_)
              refine a_go (by decide) (v_iload d_MO_appended_114 rfl ?_)
              refine a_go (by decide) (v_bipush d_MO_appended_116 kb_8 ?_)
              refine a_go (by decide) (v_iadd d_MO_appended_118 ?_)
              refine a_go (by decide) (v_iconst d_MO_appended_119 ki_4 ?_)
              refine a_go (by decide) (v_callV d_MO_appended_120 rfl (mm_spl 4 rfl) rfl (Nat.le_of_ble_eq_true rfl) rfl ?_)
              have o56 := And.left hok
              replace hok := And.right hok
              refine (i_m_read rfl o56 ?_)
              refine a_go (by decide) (v_goto d_MO_appended_123 (t := 128) (by decide) ?_)
              refine a_go (by decide) (v_callV d_MO_appended_128 rfl (mm_spl 7 rfl) rfl (Nat.le_of_ble_eq_true rfl) rfl ?_)
              have o57 := And.left hok
              replace hok := And.right hok
              refine (i_m_lineIs o57 ?_)
              refine a_go (by decide) (v_iload d_MO_appended_131 rfl ?_)
              refine a_go (by decide) (v_bipush d_MO_appended_133 kb_64 ?_)
              refine a_go (by decide) (v_idiv d_MO_appended_135 (by decide) ?_)
              refine a_go (by decide) (v_istore d_MO_appended_136 (by decide) ?_)
              refine a_go (by decide) (v_iload d_MO_appended_138 rfl ?_)
              refine a_go (by decide) (v_bipush d_MO_appended_140 kb_16 ?_)
              refine a_go (by decide) (v_iadd d_MO_appended_142 ?_)
              refine a_go (by decide) (v_istore d_MO_appended_143 (by decide) ?_)
              refine a_cut (by decide) ⟨rfl, _, [(0, _), (8, _), (9, _)], (mm_all_c rfl (mm_all_c rfl (mm_all_c rfl (mm_all_n)))), ⟨rfl, _, _, _, rfl, rfl, hok, (mm_mvVS hk (mm_ifp c1 (mm_ifp c17 (mm_ifn c25 (mm_ifp c26 (mm_ifp c28 rfl))))))⟩⟩
        · skip
          replace hok := mm_okp hok c25
          refine a_go (by decide) (v_aload_n d_MO_appended_64 rfl ?_)
          refine a_go (by decide) (v_getR d_MO_appended_65 rfl rfl rfl ?_)
          refine a_go (by decide) (v_iload d_MO_appended_68 rfl ?_)
          refine a_go (by decide) (v_bipush d_MO_appended_70 kb_6 ?_)
          refine a_go (by decide) (v_iadd d_MO_appended_72 ?_)
          have o58 := And.left hok
          replace hok := And.right hok
          refine a_go (by decide) (v_iaload d_MO_appended_73 (by decide) rfl o58 ?_)
          refine a_go (by decide) (v_goto d_MO_appended_74 (t := 78) (by decide) ?_)
          refine a_go (by decide) (v_iload d_MO_appended_78 rfl ?_)
          refine a_go (by decide) (v_bipush d_MO_appended_80 kb_m2 ?_)
          refine a_go (by decide) (v_icmp_ne d_MO_appended_82 (t := 98) (by decide) (fun c29 => ?_) (fun c29 => ?_))
          · skip
            replace hok := mm_okn hok c29
            refine a_go (by decide) (v_iload d_MO_appended_98 rfl ?_)
            refine a_go (by decide) (v_lload d_MO_appended_100 rfl ?_)
            refine a_go (by decide) (v_ldc2 d_MO_appended_102 rfl ?_)
            refine a_go (by decide) (v_lcmp d_MO_appended_105 ?_)
            refine a_go (by decide) (v_if_ne d_MO_appended_106 (t := 126) (by decide) (fun c30 => ?_) (fun c30 => ?_))
            · skip
              replace hok := mm_okn hok c30
              refine a_go (by decide) (v_lload d_MO_appended_126 rfl ?_)
              refine a_go (by decide) (v_callV d_MO_appended_128 rfl (mm_spl 7 rfl) rfl (Nat.le_of_ble_eq_true rfl) rfl ?_)
              have o59 := And.left hok
              replace hok := And.right hok
              refine (i_m_lineIs o59 ?_)
              refine a_go (by decide) (v_iload d_MO_appended_131 rfl ?_)
              refine a_go (by decide) (v_bipush d_MO_appended_133 kb_64 ?_)
              refine a_go (by decide) (v_idiv d_MO_appended_135 (by decide) ?_)
              refine a_go (by decide) (v_istore d_MO_appended_136 (by decide) ?_)
              refine a_go (by decide) (v_iload d_MO_appended_138 rfl ?_)
              refine a_go (by decide) (v_bipush d_MO_appended_140 kb_16 ?_)
              refine a_go (by decide) (v_iadd d_MO_appended_142 ?_)
              refine a_go (by decide) (v_istore d_MO_appended_143 (by decide) ?_)
              refine a_cut (by decide) ⟨rfl, _, [(0, _), (8, _), (9, _)], (mm_all_c rfl (mm_all_c rfl (mm_all_c rfl (mm_all_n)))), ⟨rfl, _, _, _, rfl, rfl, hok, (mm_mvVS hk (mm_ifp c1 (mm_ifp c17 (mm_ifp c25 (mm_ifn c29 (mm_ifn c30 rfl))))))⟩⟩
            · skip
              replace hok := mm_okp hok c30
              refine a_go (by decide) (v_aload_n d_MO_appended_109 rfl ?_)
              refine a_go (by decide) (v_aload_n d_MO_appended_110 rfl ?_)
              refine a_go (by decide) (v_getR d_MO_appended_111 rfl rfl rfl ?_)
              refine a_go (by decide) (v_iload d_MO_appended_114 rfl ?_)
              refine a_go (by decide) (v_bipush d_MO_appended_116 kb_8 ?_)
              refine a_go (by decide) (v_iadd d_MO_appended_118 ?_)
              refine a_go (by decide) (v_iconst d_MO_appended_119 ki_4 ?_)
              refine a_go (by decide) (v_callV d_MO_appended_120 rfl (mm_spl 4 rfl) rfl (Nat.le_of_ble_eq_true rfl) rfl ?_)
              have o60 := And.left hok
              replace hok := And.right hok
              refine (i_m_read rfl o60 ?_)
              refine a_go (by decide) (v_goto d_MO_appended_123 (t := 128) (by decide) ?_)
              refine a_go (by decide) (v_callV d_MO_appended_128 rfl (mm_spl 7 rfl) rfl (Nat.le_of_ble_eq_true rfl) rfl ?_)
              have o61 := And.left hok
              replace hok := And.right hok
              refine (i_m_lineIs o61 ?_)
              refine a_go (by decide) (v_iload d_MO_appended_131 rfl ?_)
              refine a_go (by decide) (v_bipush d_MO_appended_133 kb_64 ?_)
              refine a_go (by decide) (v_idiv d_MO_appended_135 (by decide) ?_)
              refine a_go (by decide) (v_istore d_MO_appended_136 (by decide) ?_)
              refine a_go (by decide) (v_iload d_MO_appended_138 rfl ?_)
              refine a_go (by decide) (v_bipush d_MO_appended_140 kb_16 ?_)
              refine a_go (by decide) (v_iadd d_MO_appended_142 ?_)
              refine a_go (by decide) (v_istore d_MO_appended_143 (by decide) ?_)
              refine a_cut (by decide) ⟨rfl, _, [(0, _), (8, _), (9, _)], (mm_all_c rfl (mm_all_c rfl (mm_all_c rfl (mm_all_n)))), ⟨rfl, _, _, _, rfl, rfl, hok, (mm_mvVS hk (mm_ifp c1 (mm_ifp c17 (mm_ifp c25 (mm_ifn c29 (mm_ifp c30 rfl))))))⟩⟩
          · skip
            replace hok := mm_okp hok c29
            refine a_go (by decide) (v_aload_n d_MO_appended_85 rfl ?_)
            refine a_go (by decide) (v_getR d_MO_appended_86 rfl rfl rfl ?_)
            refine a_go (by decide) (v_iload d_MO_appended_89 rfl ?_)
            refine a_go (by decide) (v_bipush d_MO_appended_91 kb_7 ?_)
            refine a_go (by decide) (v_iadd d_MO_appended_93 ?_)
            have o62 := And.left hok
            replace hok := And.right hok
            refine a_go (by decide) (v_iaload d_MO_appended_94 (by decide) rfl o62 ?_)
            refine a_go (by decide) (v_goto d_MO_appended_95 (t := 100) (by decide) ?_)
            refine a_go (by decide) (v_lload d_MO_appended_100 rfl ?_)
            refine a_go (by decide) (v_ldc2 d_MO_appended_102 rfl ?_)
            refine a_go (by decide) (v_lcmp d_MO_appended_105 ?_)
            refine a_go (by decide) (v_if_ne d_MO_appended_106 (t := 126) (by decide) (fun c31 => ?_) (fun c31 => ?_))
            · skip
              replace hok := mm_okn hok c31
              refine a_go (by decide) (v_lload d_MO_appended_126 rfl ?_)
              refine a_go (by decide) (v_callV d_MO_appended_128 rfl (mm_spl 7 rfl) rfl (Nat.le_of_ble_eq_true rfl) rfl ?_)
              have o63 := And.left hok
              replace hok := And.right hok
              refine (i_m_lineIs o63 ?_)
              refine a_go (by decide) (v_iload d_MO_appended_131 rfl ?_)
              refine a_go (by decide) (v_bipush d_MO_appended_133 kb_64 ?_)
              refine a_go (by decide) (v_idiv d_MO_appended_135 (by decide) ?_)
              refine a_go (by decide) (v_istore d_MO_appended_136 (by decide) ?_)
              refine a_go (by decide) (v_iload d_MO_appended_138 rfl ?_)
              refine a_go (by decide) (v_bipush d_MO_appended_140 kb_16 ?_)
              refine a_go (by decide) (v_iadd d_MO_appended_142 ?_)
              refine a_go (by decide) (v_istore d_MO_appended_143 (by decide) ?_)
              refine a_cut (by decide) ⟨rfl, _, [(0, _), (8, _), (9, _)], (mm_all_c rfl (mm_all_c rfl (mm_all_c rfl (mm_all_n)))), ⟨rfl, _, _, _, rfl, rfl, hok, (mm_mvVS hk (mm_ifp c1 (mm_ifp c17 (mm_ifp c25 (mm_ifp c29 (mm_ifn c31 rfl))))))⟩⟩
            · skip
              replace hok := mm_okp hok c31
              refine a_go (by decide) (v_aload_n d_MO_appended_109 rfl ?_)
              refine a_go (by decide) (v_aload_n d_MO_appended_110 rfl ?_)
              refine a_go (by decide) (v_getR d_MO_appended_111 rfl rfl rfl ?_)
              refine a_go (by decide) (v_iload d_MO_appended_114 rfl ?_)
              refine a_go (by decide) (v_bipush d_MO_appended_116 kb_8 ?_)
              refine a_go (by decide) (v_iadd d_MO_appended_118 ?_)
              refine a_go (by decide) (v_iconst d_MO_appended_119 ki_4 ?_)
              refine a_go (by decide) (v_callV d_MO_appended_120 rfl (mm_spl 4 rfl) rfl (Nat.le_of_ble_eq_true rfl) rfl ?_)
              have o64 := And.left hok
              replace hok := And.right hok
              refine (i_m_read rfl o64 ?_)
              refine a_go (by decide) (v_goto d_MO_appended_123 (t := 128) (by decide) ?_)
              refine a_go (by decide) (v_callV d_MO_appended_128 rfl (mm_spl 7 rfl) rfl (Nat.le_of_ble_eq_true rfl) rfl ?_)
              have o65 := And.left hok
              replace hok := And.right hok
              refine (i_m_lineIs o65 ?_)
              refine a_go (by decide) (v_iload d_MO_appended_131 rfl ?_)
              refine a_go (by decide) (v_bipush d_MO_appended_133 kb_64 ?_)
              refine a_go (by decide) (v_idiv d_MO_appended_135 (by decide) ?_)
              refine a_go (by decide) (v_istore d_MO_appended_136 (by decide) ?_)
              refine a_go (by decide) (v_iload d_MO_appended_138 rfl ?_)
              refine a_go (by decide) (v_bipush d_MO_appended_140 kb_16 ?_)
              refine a_go (by decide) (v_iadd d_MO_appended_142 ?_)
              refine a_go (by decide) (v_istore d_MO_appended_143 (by decide) ?_)
              refine a_cut (by decide) ⟨rfl, _, [(0, _), (8, _), (9, _)], (mm_all_c rfl (mm_all_c rfl (mm_all_c rfl (mm_all_n)))), ⟨rfl, _, _, _, rfl, rfl, hok, (mm_mvVS hk (mm_ifp c1 (mm_ifp c17 (mm_ifp c25 (mm_ifp c29 (mm_ifp c31 rfl))))))⟩⟩
  · rintro as x0 K - k pc lv x - hinv
    obtain ⟨rfl, f, u8, u9, hkf, rfl, hok, hk⟩ := hinv
    cases f with
    | zero => exact False.elim hok
    | succ k =>
      subst hkf
      refine ⟨900, ?_⟩
      refine v_iload d_MO_appended_145 rfl ?_
      refine a_go (by decide) (v_bipush d_MO_appended_147 kb_64 ?_)
      refine a_go (by decide) (v_iload d_MO_appended_149 rfl ?_)
      refine a_go (by decide) (v_iconst d_MO_appended_151 ki_1 ?_)
      refine a_go (by decide) (v_iadd d_MO_appended_152 ?_)
      refine a_go (by decide) (v_imul d_MO_appended_153 ?_)
      refine a_go (by decide) (v_icmp_ge d_MO_appended_154 (t := 172) (by decide) (fun c32 => ?_) (fun c32 => ?_))
      · skip
        replace hok := mm_okp hok c32
        refine a_go (by decide) (v_iload d_MO_appended_172 rfl ?_)
        refine a_go (by decide) (v_bipush d_MO_appended_174 kb_64 ?_)
        refine a_go (by decide) (v_iload d_MO_appended_176 rfl ?_)
        refine a_go (by decide) (v_iconst d_MO_appended_178 ki_1 ?_)
        refine a_go (by decide) (v_iadd d_MO_appended_179 ?_)
        refine a_go (by decide) (v_imul d_MO_appended_180 ?_)
        refine a_go (by decide) (v_icmp_ne d_MO_appended_181 (t := 206) (by decide) (fun c33 => ?_) (fun c33 => ?_))
        · skip
          replace hok := mm_okn hok c33
          refine a_go (by decide) (v_aload_n d_MO_appended_206 rfl ?_)
          refine a_go (by decide) (v_iload d_MO_appended_207 rfl ?_)
          refine a_go (by decide) (v_aload_n d_MO_appended_209 rfl ?_)
          refine a_go (by decide) (v_getR d_MO_appended_210 rfl rfl rfl ?_)
          refine a_go (by decide) (v_iconst d_MO_appended_213 ki_0 ?_)
          refine a_go (by decide) (v_callV d_MO_appended_214 rfl (mm_spl 4 rfl) rfl (Nat.le_of_ble_eq_true rfl) rfl ?_)
          have o66 := And.left hok
          replace hok := And.right hok
          refine (i_m_programmed rfl o66 ?_)
          refine a_go (by decide) (v_if_ne d_MO_appended_217 (t := 222) (by decide) (fun c34 => ?_) (fun c34 => ?_))
          · skip
            replace hok := mm_okn hok c34
            refine a_go (by decide) (v_aload_n d_MO_appended_222 rfl ?_)
            refine a_go (by decide) (v_getR d_MO_appended_223 rfl rfl rfl ?_)
            refine a_go (by decide) (v_iconst d_MO_appended_226 ki_2 ?_)
            refine a_go (by decide) (v_dup2 d_MO_appended_227 rfl rfl ?_)
            have o67 := And.left hok
            replace hok := And.right hok
            refine a_go (by decide) (v_iaload d_MO_appended_228 (by decide) rfl o67 ?_)
            refine a_go (by decide) (v_iconst d_MO_appended_229 ki_1 ?_)
            refine a_go (by decide) (v_iadd d_MO_appended_230 ?_)
            have o68 := And.left hok
            replace hok := And.right hok
            refine a_go (by decide) (v_iastore d_MO_appended_231 rfl o68 ?_)
            refine a_go (by decide) (v_iconst d_MO_appended_232 ki_1 ?_)
            refine a_go (by decide) (v_zreturn d_MO_appended_233 rfl (by decide) ?_)
            exact mm_fiVS hk (mm_ifp c32 (mm_ifn c33 (mm_ifn c34 rfl)))
          · skip
            replace hok := mm_okp hok c34
            refine a_go (by decide) (v_iconst d_MO_appended_220 ki_0 ?_)
            refine a_go (by decide) (v_zreturn d_MO_appended_221 rfl (by decide) ?_)
            exact mm_fiVS hk (mm_ifp c32 (mm_ifn c33 (mm_ifp c34 rfl)))
        · skip
          replace hok := mm_okp hok c33
          refine a_go (by decide) (v_bipush d_MO_appended_184 kb_64 ?_)
          refine a_go (by decide) (v_iconst d_MO_appended_186 ki_1 ?_)
          refine a_go (by decide) (v_iload d_MO_appended_187 rfl ?_)
          refine a_go (by decide) (v_isub d_MO_appended_189 ?_)
          refine a_go (by decide) (v_imul d_MO_appended_190 ?_)
          refine a_go (by decide) (v_istore d_MO_appended_191 (by decide) ?_)
          refine a_go (by decide) (v_aload_n d_MO_appended_193 rfl ?_)
          refine a_go (by decide) (v_iconst d_MO_appended_194 ki_1 ?_)
          refine a_go (by decide) (v_iload d_MO_appended_195 rfl ?_)
          refine a_go (by decide) (v_isub d_MO_appended_197 ?_)
          refine a_go (by decide) (v_callV d_MO_appended_198 rfl (mm_spl 2 rfl) rfl (Nat.le_of_ble_eq_true rfl) rfl ?_)
          have o69 := And.left hok
          replace hok := And.right hok
          refine (i_m_erased o69 ?_)
          refine a_go (by decide) (v_if_ne d_MO_appended_201 (t := 206) (by decide) (fun c35 => ?_) (fun c35 => ?_))
          · skip
            replace hok := mm_okn hok c35
            refine a_go (by decide) (v_aload_n d_MO_appended_206 rfl ?_)
            refine a_go (by decide) (v_iload d_MO_appended_207 rfl ?_)
            refine a_go (by decide) (v_aload_n d_MO_appended_209 rfl ?_)
            refine a_go (by decide) (v_getR d_MO_appended_210 rfl rfl rfl ?_)
            refine a_go (by decide) (v_iconst d_MO_appended_213 ki_0 ?_)
            refine a_go (by decide) (v_callV d_MO_appended_214 rfl (mm_spl 4 rfl) rfl (Nat.le_of_ble_eq_true rfl) rfl ?_)
            have o70 := And.left hok
            replace hok := And.right hok
            refine (i_m_programmed rfl o70 ?_)
            refine a_go (by decide) (v_if_ne d_MO_appended_217 (t := 222) (by decide) (fun c36 => ?_) (fun c36 => ?_))
            · skip
              replace hok := mm_okn hok c36
              refine a_go (by decide) (v_aload_n d_MO_appended_222 rfl ?_)
              refine a_go (by decide) (v_getR d_MO_appended_223 rfl rfl rfl ?_)
              refine a_go (by decide) (v_iconst d_MO_appended_226 ki_2 ?_)
              refine a_go (by decide) (v_dup2 d_MO_appended_227 rfl rfl ?_)
              have o71 := And.left hok
              replace hok := And.right hok
              refine a_go (by decide) (v_iaload d_MO_appended_228 (by decide) rfl o71 ?_)
              refine a_go (by decide) (v_iconst d_MO_appended_229 ki_1 ?_)
              refine a_go (by decide) (v_iadd d_MO_appended_230 ?_)
              have o72 := And.left hok
              replace hok := And.right hok
              refine a_go (by decide) (v_iastore d_MO_appended_231 rfl o72 ?_)
              refine a_go (by decide) (v_iconst d_MO_appended_232 ki_1 ?_)
              refine a_go (by decide) (v_zreturn d_MO_appended_233 rfl (by decide) ?_)
              exact mm_fiVS hk (mm_ifp c32 (mm_ifp c33 (mm_ifn c35 (mm_ifn c36 rfl))))
            · skip
              replace hok := mm_okp hok c36
              refine a_go (by decide) (v_iconst d_MO_appended_220 ki_0 ?_)
              refine a_go (by decide) (v_zreturn d_MO_appended_221 rfl (by decide) ?_)
              exact mm_fiVS hk (mm_ifp c32 (mm_ifp c33 (mm_ifn c35 (mm_ifp c36 rfl))))
          · skip
            replace hok := mm_okp hok c35
            refine a_go (by decide) (v_iconst d_MO_appended_204 ki_0 ?_)
            refine a_go (by decide) (v_zreturn d_MO_appended_205 rfl (by decide) ?_)
            exact mm_fiVS hk (mm_ifp c32 (mm_ifp c33 (mm_ifp c35 rfl)))
      · skip
        replace hok := mm_okn hok c32
        refine a_go (by decide) (v_aload_n d_MO_appended_157 rfl ?_)
        refine a_go (by decide) (v_iload d_MO_appended_158 rfl ?_)
        refine a_go (by decide) (v_callV d_MO_appended_160 rfl (mm_spl 2 rfl) rfl (Nat.le_of_ble_eq_true rfl) rfl ?_)
        have o73 := And.left hok
        replace hok := And.right hok
        refine (i_m_isClean o73 ?_)
        refine a_go (by decide) (v_if_ne d_MO_appended_163 (t := 172) (by decide) (fun c37 => ?_) (fun c37 => ?_))
        · skip
          replace hok := mm_okn hok c37
          refine a_go (by decide) (v_iload d_MO_appended_172 rfl ?_)
          refine a_go (by decide) (v_bipush d_MO_appended_174 kb_64 ?_)
          refine a_go (by decide) (v_iload d_MO_appended_176 rfl ?_)
          refine a_go (by decide) (v_iconst d_MO_appended_178 ki_1 ?_)
          refine a_go (by decide) (v_iadd d_MO_appended_179 ?_)
          refine a_go (by decide) (v_imul d_MO_appended_180 ?_)
          refine a_go (by decide) (v_icmp_ne d_MO_appended_181 (t := 206) (by decide) (fun c38 => ?_) (fun c38 => ?_))
          · skip
            replace hok := mm_okn hok c38
            refine a_go (by decide) (v_aload_n d_MO_appended_206 rfl ?_)
            refine a_go (by decide) (v_iload d_MO_appended_207 rfl ?_)
            refine a_go (by decide) (v_aload_n d_MO_appended_209 rfl ?_)
            refine a_go (by decide) (v_getR d_MO_appended_210 rfl rfl rfl ?_)
            refine a_go (by decide) (v_iconst d_MO_appended_213 ki_0 ?_)
            refine a_go (by decide) (v_callV d_MO_appended_214 rfl (mm_spl 4 rfl) rfl (Nat.le_of_ble_eq_true rfl) rfl ?_)
            have o74 := And.left hok
            replace hok := And.right hok
            refine (i_m_programmed rfl o74 ?_)
            refine a_go (by decide) (v_if_ne d_MO_appended_217 (t := 222) (by decide) (fun c39 => ?_) (fun c39 => ?_))
            · skip
              replace hok := mm_okn hok c39
              refine a_go (by decide) (v_aload_n d_MO_appended_222 rfl ?_)
              refine a_go (by decide) (v_getR d_MO_appended_223 rfl rfl rfl ?_)
              refine a_go (by decide) (v_iconst d_MO_appended_226 ki_2 ?_)
              refine a_go (by decide) (v_dup2 d_MO_appended_227 rfl rfl ?_)
              have o75 := And.left hok
              replace hok := And.right hok
              refine a_go (by decide) (v_iaload d_MO_appended_228 (by decide) rfl o75 ?_)
              refine a_go (by decide) (v_iconst d_MO_appended_229 ki_1 ?_)
              refine a_go (by decide) (v_iadd d_MO_appended_230 ?_)
              have o76 := And.left hok
              replace hok := And.right hok
              refine a_go (by decide) (v_iastore d_MO_appended_231 rfl o76 ?_)
              refine a_go (by decide) (v_iconst d_MO_appended_232 ki_1 ?_)
              refine a_go (by decide) (v_zreturn d_MO_appended_233 rfl (by decide) ?_)
              exact mm_fiVS hk (mm_ifn c32 (mm_ifn c37 (mm_ifn c38 (mm_ifn c39 rfl))))
            · skip
              replace hok := mm_okp hok c39
              refine a_go (by decide) (v_iconst d_MO_appended_220 ki_0 ?_)
              refine a_go (by decide) (v_zreturn d_MO_appended_221 rfl (by decide) ?_)
              exact mm_fiVS hk (mm_ifn c32 (mm_ifn c37 (mm_ifn c38 (mm_ifp c39 rfl))))
          · skip
            replace hok := mm_okp hok c38
            refine a_go (by decide) (v_bipush d_MO_appended_184 kb_64 ?_)
            refine a_go (by decide) (v_iconst d_MO_appended_186 ki_1 ?_)
            refine a_go (by decide) (v_iload d_MO_appended_187 rfl ?_)
            refine a_go (by decide) (v_isub d_MO_appended_189 ?_)
            refine a_go (by decide) (v_imul d_MO_appended_190 ?_)
            refine a_go (by decide) (v_istore d_MO_appended_191 (by decide) ?_)
            refine a_go (by decide) (v_aload_n d_MO_appended_193 rfl ?_)
            refine a_go (by decide) (v_iconst d_MO_appended_194 ki_1 ?_)
            refine a_go (by decide) (v_iload d_MO_appended_195 rfl ?_)
            refine a_go (by decide) (v_isub d_MO_appended_197 ?_)
            refine a_go (by decide) (v_callV d_MO_appended_198 rfl (mm_spl 2 rfl) rfl (Nat.le_of_ble_eq_true rfl) rfl ?_)
            have o77 := And.left hok
            replace hok := And.right hok
            refine (i_m_erased o77 ?_)
            refine a_go (by decide) (v_if_ne d_MO_appended_201 (t := 206) (by decide) (fun c40 => ?_) (fun c40 => ?_))
            · skip
              replace hok := mm_okn hok c40
              refine a_go (by decide) (v_aload_n d_MO_appended_206 rfl ?_)
              refine a_go (by decide) (v_iload d_MO_appended_207 rfl ?_)
              refine a_go (by decide) (v_aload_n d_MO_appended_209 rfl ?_)
              refine a_go (by decide) (v_getR d_MO_appended_210 rfl rfl rfl ?_)
              refine a_go (by decide) (v_iconst d_MO_appended_213 ki_0 ?_)
              refine a_go (by decide) (v_callV d_MO_appended_214 rfl (mm_spl 4 rfl) rfl (Nat.le_of_ble_eq_true rfl) rfl ?_)
              have o78 := And.left hok
              replace hok := And.right hok
              refine (i_m_programmed rfl o78 ?_)
              refine a_go (by decide) (v_if_ne d_MO_appended_217 (t := 222) (by decide) (fun c41 => ?_) (fun c41 => ?_))
              · skip
                replace hok := mm_okn hok c41
                refine a_go (by decide) (v_aload_n d_MO_appended_222 rfl ?_)
                refine a_go (by decide) (v_getR d_MO_appended_223 rfl rfl rfl ?_)
                refine a_go (by decide) (v_iconst d_MO_appended_226 ki_2 ?_)
                refine a_go (by decide) (v_dup2 d_MO_appended_227 rfl rfl ?_)
                have o79 := And.left hok
                replace hok := And.right hok
                refine a_go (by decide) (v_iaload d_MO_appended_228 (by decide) rfl o79 ?_)
                refine a_go (by decide) (v_iconst d_MO_appended_229 ki_1 ?_)
                refine a_go (by decide) (v_iadd d_MO_appended_230 ?_)
                have o80 := And.left hok
                replace hok := And.right hok
                refine a_go (by decide) (v_iastore d_MO_appended_231 rfl o80 ?_)
                refine a_go (by decide) (v_iconst d_MO_appended_232 ki_1 ?_)
                refine a_go (by decide) (v_zreturn d_MO_appended_233 rfl (by decide) ?_)
                exact mm_fiVS hk (mm_ifn c32 (mm_ifn c37 (mm_ifp c38 (mm_ifn c40 (mm_ifn c41 rfl)))))
              · skip
                replace hok := mm_okp hok c41
                refine a_go (by decide) (v_iconst d_MO_appended_220 ki_0 ?_)
                refine a_go (by decide) (v_zreturn d_MO_appended_221 rfl (by decide) ?_)
                exact mm_fiVS hk (mm_ifn c32 (mm_ifn c37 (mm_ifp c38 (mm_ifn c40 (mm_ifp c41 rfl)))))
            · skip
              replace hok := mm_okp hok c40
              refine a_go (by decide) (v_iconst d_MO_appended_204 ki_0 ?_)
              refine a_go (by decide) (v_zreturn d_MO_appended_205 rfl (by decide) ?_)
              exact mm_fiVS hk (mm_ifn c32 (mm_ifn c37 (mm_ifp c38 (mm_ifp c40 rfl))))
        · skip
          replace hok := mm_okp hok c37
          refine a_go (by decide) (v_iinc d_MO_appended_166 (by decide) rfl ki_16 ?_)
          refine a_go (by decide) (v_goto d_MO_appended_169 (t := 145) (by decide) ?_)
          refine a_cut (by decide) ⟨rfl, _, [(0, _), (8, _), (9, _)], ?_, (mm_all_c rfl (mm_all_c rfl (mm_all_c rfl (mm_all_n)))), ⟨rfl, _, _, _, rfl, rfl, hok, (mm_mvVS hk (mm_ifn c32 (mm_ifp c37 rfl)))⟩⟩
          exact Nat.lt_succ_self _
