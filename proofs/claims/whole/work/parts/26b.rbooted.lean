-- TwoSlotsModel.booted()Z
def l_m_booted_139 (k : Nat) (x : mm_S) : Int32 × mm_S := match k with
  | 0 => (0, x)
  | k + 1 =>
    let y13 := e_m_activeSlot x
    if (e_m_isGood y13 x) = (0 : Int32) then
      if (e_m_isGood (e_m_otherOf y13 x) x) = (0 : Int32) then
        ((1 : Int32), x)
      else
        let q14 := e_m_appended (e_m_otherOf y13 x) (-2 : Int32) (-2 : Int32) (-2 : Int32) (-2 : Int64) x
        if q14.1 = (0 : Int32) then
          ((0 : Int32), q14.2)
        else
          let x15 := mm_setI q14.2 103 (e_m_otherOf y13 q14.2)
          ((1 : Int32), x15)
    else
      let x16 := mm_setI x 103 y13
      ((1 : Int32), x16)
def okl_m_booted_139 (k : Nat) (x : mm_S) : Prop := match k with
  | 0 => False
  | k + 1 => (ok_m_activeSlot  x) ∧ (let y13 := e_m_activeSlot x; (ok_m_isGood y13 x) ∧ (if (e_m_isGood y13 x) = (0 : Int32) then ((ok_m_isGood (e_m_otherOf y13 x) x) ∧ (if (e_m_isGood (e_m_otherOf y13 x) x) = (0 : Int32) then (True) else ((ok_m_appended (e_m_otherOf y13 x) (-2 : Int32) (-2 : Int32) (-2 : Int32) (-2 : Int64) x) ∧ (let q14 := e_m_appended (e_m_otherOf y13 x) (-2 : Int32) (-2 : Int32) (-2 : Int32) (-2 : Int64) x; if q14.1 = (0 : Int32) then (True) else (let x15 := mm_setI q14.2 103 (e_m_otherOf y13 q14.2); True))))) else (let x16 := mm_setI x 103 y13; True)))
def l_m_booted_112 (k : Nat) (u2 : Int32) (x : mm_S) : Int32 × mm_S := match k with
  | 0 => (0, x)
  | k + 1 =>
    if u2 = (255 : Int32) then
      l_m_booted_139 (1)  x
    else
      let q12 := e_m_appended (-2 : Int32) (255 : Int32) (0 : Int32) (-2 : Int32) (-2 : Int64) x
      if q12.1 = (0 : Int32) then
        ((0 : Int32), q12.2)
      else
        l_m_booted_139 (1)  q12.2
def okl_m_booted_112 (k : Nat) (u2 : Int32) (x : mm_S) : Prop := match k with
  | 0 => False
  | k + 1 => if u2 = (255 : Int32) then (okl_m_booted_139 (1)  x) else ((ok_m_appended (-2 : Int32) (255 : Int32) (0 : Int32) (-2 : Int32) (-2 : Int64) x) ∧ (let q12 := e_m_appended (-2 : Int32) (255 : Int32) (0 : Int32) (-2 : Int32) (-2 : Int64) x; if q12.1 = (0 : Int32) then (True) else (okl_m_booted_139 (1)  q12.2)))
def e_m_booted (x : mm_S) : Int32 × mm_S :=
  let x1 := mm_setA x 13 (upd (x.2.2 13) (Int32.toNatClampNeg (3 : Int32)) ((x.2.2 13 (Int32.toNatClampNeg (3 : Int32))) + (1 : Int32)))
  let x2 := mm_setI x1 106 (-1 : Int32)
  let x3 := mm_setI x2 103 (-1 : Int32)
  let x4 := mm_setI x3 104 (0 : Int32)
  let y5 := e_m_newest x4
  if y5 = (-1 : Int32) then
    ((1 : Int32), x4)
  else
    let y6 := x4.2.2 10 (Int32.toNatClampNeg (y5 + (5 : Int32)))
    let y7 := x4.2.2 10 (Int32.toNatClampNeg (y5 + (6 : Int32)))
    if (e_m_isGood y6 x4) = (0 : Int32) then
      l_m_booted_112 (1) y6 x4
    else
      if y7 ≤ (0 : Int32) then
        l_m_booted_112 (1) y6 x4
      else
        let q8 := e_m_appended (-2 : Int32) (-2 : Int32) (y7 - (1 : Int32)) (-2 : Int32) (-2 : Int64) x4
        if q8.1 = (0 : Int32) then
          ((0 : Int32), q8.2)
        else
          let x9 := mm_setI q8.2 103 y6
          let x10 := mm_setI x9 104 (20 : Int32)
          let x11 := mm_setA x10 13 (upd (x10.2.2 13) (Int32.toNatClampNeg (4 : Int32)) ((x10.2.2 13 (Int32.toNatClampNeg (4 : Int32))) + (1 : Int32)))
          ((1 : Int32), x11)
def ok_m_booted (x : mm_S) : Prop := (vp_in (3 : Int32) 7) ∧ ((vp_in (3 : Int32) 7) ∧ (let x1 := mm_setA x 13 (upd (x.2.2 13) (Int32.toNatClampNeg (3 : Int32)) ((x.2.2 13 (Int32.toNatClampNeg (3 : Int32))) + (1 : Int32))); let x2 := mm_setI x1 106 (-1 : Int32); let x3 := mm_setI x2 103 (-1 : Int32); let x4 := mm_setI x3 104 (0 : Int32); (ok_m_newest  x4) ∧ (let y5 := e_m_newest x4; if y5 = (-1 : Int32) then (True) else ((vp_in (y5 + (5 : Int32)) 4096) ∧ (let y6 := x4.2.2 10 (Int32.toNatClampNeg (y5 + (5 : Int32))); (vp_in (y5 + (6 : Int32)) 4096) ∧ (let y7 := x4.2.2 10 (Int32.toNatClampNeg (y5 + (6 : Int32))); (ok_m_isGood y6 x4) ∧ (if (e_m_isGood y6 x4) = (0 : Int32) then (okl_m_booted_112 (1) y6 x4) else (if y7 ≤ (0 : Int32) then (okl_m_booted_112 (1) y6 x4) else ((ok_m_appended (-2 : Int32) (-2 : Int32) (y7 - (1 : Int32)) (-2 : Int32) (-2 : Int64) x4) ∧ (let q8 := e_m_appended (-2 : Int32) (-2 : Int32) (y7 - (1 : Int32)) (-2 : Int32) (-2 : Int64) x4; if q8.1 = (0 : Int32) then (True) else (let x9 := mm_setI q8.2 103 y6; let x10 := mm_setI x9 104 (20 : Int32); (vp_in (4 : Int32) 7) ∧ ((vp_in (4 : Int32) 7) ∧ (let x11 := mm_setA x10 13 (upd (x10.2.2 13) (Int32.toNatClampNeg (4 : Int32)) ((x10.2.2 13 (Int32.toNatClampNeg (4 : Int32))) + (1 : Int32))); True)))))))))))))
def S_m_booted : mm_P := fun as x K => as = [.ref 11] ∧ (ok_m_booted x) ∧ K (some (.int (e_m_booted x).1)) (e_m_booted x).2
theorem i_m_booted {x : mm_S} {K : mm_K} (hpre : (ok_m_booted x)) (hk : K (some (.int (e_m_booted x).1)) (e_m_booted x).2) : S_m_booted [.ref 11] x K := ⟨rfl, hpre, hk⟩
def G_m_booted : mm_G := (FT_MO, CI_MO, CJ_MO, mm_tb [(156, 1, S_m_otherOf)], mm_tb [(80, 1, 5, S_m_newest), (169, 2, 5, S_m_isGood), (165, 6, 5, S_m_appended), (153, 1, 5, S_m_activeSlot)], none)
def rm_m_booted : Room := { frames := 4, cells := 0, slots := 0, locals := 98 }
abbrev Inv_m_booted : mm_K → List Value → mm_S → Nat → Nat → mm_V → mm_S → Prop := fun K _ _ k pc lv x => (pc = 112 ∧ ∃ (f : Nat) (u2 : Int32), k = f + 10 ∧ lv = [(0, .ref 11), (2, .int u2)] ∧ okl_m_booted_112 f u2 x ∧ K (some (.int (l_m_booted_112 f u2 x).1)) (l_m_booted_112 f u2 x).2) ∨ (pc = 139 ∧ ∃ (f : Nat), k = f + 0 ∧ lv = [(0, .ref 11)] ∧ okl_m_booted_139 f x ∧ K (some (.int (l_m_booted_139 f x).1)) (l_m_booted_139 f x).2)
set_option maxHeartbeats 40000000 in
set_option maxRecDepth 10000 in
theorem c_m_booted (l : Launch) : mm_Con l NW CL TB LL y_MO_booted b_MO_booted 5 (some .boolean) rm_m_booted S_m_booted := by
  refine mm_con G_m_booted [112, 139] Inv_m_booted (by decide +kernel) tb_good LL_u nw_nest ?_ rfl ft_MO ci_MO cj_MO ?_ ?_ ?_ ?_
  · rintro as x K ⟨rfl, -⟩
    exact Nat.le_of_ble_eq_true rfl
  · exact mm_tb_e (List.forall_mem_cons.mpr ⟨mm_cst_i (c_m_otherOf l) (mm_cb_i rfl rfl (by decide) (by decide) tc_MO_otherOf ti_MO ⟨by decide, by decide, by decide +kernel⟩ (Or.inl tl_MO_156)) ts_MO_otherOf, fun _ h => absurd h List.not_mem_nil⟩)
  · exact mm_tb_e (List.forall_mem_cons.mpr ⟨mm_cvt_i (c_m_newest l) (mm_cb_i rfl rfl (by decide) (by decide) tc_MO_newest ti_MO ⟨by decide, by decide, by decide +kernel⟩ (Or.inl tl_MO_80)) rfl tv_MO_newest tx_MO_newest, List.forall_mem_cons.mpr ⟨mm_cvt_i (c_m_isGood l) (mm_cb_i rfl rfl (by decide) (by decide) tc_MO_isGood ti_MO ⟨by decide, by decide, by decide +kernel⟩ (Or.inl tl_MO_169)) rfl tv_MO_isGood tx_MO_isGood, List.forall_mem_cons.mpr ⟨mm_cvt_i (c_m_appended l) (mm_cb_i rfl rfl (by decide) (by decide) tc_MO_appended ti_MO ⟨by decide, by decide, by decide +kernel⟩ (Or.inl tl_MO_165)) rfl tv_MO_appended tx_MO_appended, List.forall_mem_cons.mpr ⟨mm_cvt_i (c_m_activeSlot l) (mm_cb_i rfl rfl (by decide) (by decide) tc_MO_activeSlot ti_MO ⟨by decide, by decide, by decide +kernel⟩ (Or.inl tl_MO_153)) rfl tv_MO_activeSlot tx_MO_activeSlot, fun _ h => absurd h List.not_mem_nil⟩⟩⟩⟩)
  · rintro as x K ⟨rfl, hok, hk⟩
    refine ⟨400, ?_⟩
    refine v_aload_n d_MO_booted_0 rfl ?_
    refine a_go (by decide) (v_getR d_MO_booted_1 rfl rfl rfl ?_)
    refine a_go (by decide) (v_iconst d_MO_booted_4 ki_3 ?_)
    refine a_go (by decide) (v_dup2 d_MO_booted_5 rfl rfl ?_)
    have o1 := And.left hok
    replace hok := And.right hok
    refine a_go (by decide) (v_iaload d_MO_booted_6 (by decide) rfl o1 ?_)
    refine a_go (by decide) (v_iconst d_MO_booted_7 ki_1 ?_)
    refine a_go (by decide) (v_iadd d_MO_booted_8 ?_)
    have o2 := And.left hok
    replace hok := And.right hok
    refine a_go (by decide) (v_iastore d_MO_booted_9 rfl o2 ?_)
    refine a_go (by decide) (v_aload_n d_MO_booted_10 rfl ?_)
    refine a_go (by decide) (v_iconst d_MO_booted_11 ki_m1 ?_)
    refine a_go (by decide) (v_putI d_MO_booted_12 rfl rfl rfl ?_)
    refine a_go (by decide) (v_aload_n d_MO_booted_15 rfl ?_)
    refine a_go (by decide) (v_iconst d_MO_booted_16 ki_m1 ?_)
    refine a_go (by decide) (v_putI d_MO_booted_17 rfl rfl rfl ?_)
    refine a_go (by decide) (v_aload_n d_MO_booted_20 rfl ?_)
    refine a_go (by decide) (v_iconst d_MO_booted_21 ki_0 ?_)
    refine a_go (by decide) (v_putI d_MO_booted_22 rfl rfl rfl ?_)
    refine a_go (by decide) (v_aload_n d_MO_booted_25 rfl ?_)
    refine a_go (by decide) (v_callV d_MO_booted_26 rfl (mm_spl 1 rfl) rfl (Nat.le_of_ble_eq_true rfl) rfl ?_)
    have o3 := And.left hok
    replace hok := And.right hok
    refine (i_m_newest o3 ?_)
    refine a_go (by decide) (v_istore_n d_MO_booted_29 (by decide) ?_)
    refine a_go (by decide) (v_iload_n d_MO_booted_30 rfl ?_)
    refine a_go (by decide) (v_iconst d_MO_booted_31 ki_m1 ?_)
    refine a_go (by decide) (v_icmp_ne d_MO_booted_32 (t := 37) (by decide) (fun c1 => ?_) (fun c1 => ?_))
    · skip
      replace hok := mm_okn hok c1
      refine a_go (by decide) (v_aload_n d_MO_booted_37 rfl ?_)
      refine a_go (by decide) (v_getR d_MO_booted_38 rfl rfl rfl ?_)
      refine a_go (by decide) (v_iload_n d_MO_booted_41 rfl ?_)
      refine a_go (by decide) (v_iconst d_MO_booted_42 ki_5 ?_)
      refine a_go (by decide) (v_iadd d_MO_booted_43 ?_)
      have o4 := And.left hok
      replace hok := And.right hok
      refine a_go (by decide) (v_iaload d_MO_booted_44 (by decide) rfl o4 ?_)
      refine a_go (by decide) (v_istore_n d_MO_booted_45 (by decide) ?_)
      refine a_go (by decide) (v_aload_n d_MO_booted_46 rfl ?_)
      refine a_go (by decide) (v_getR d_MO_booted_47 rfl rfl rfl ?_)
      refine a_go (by decide) (v_iload_n d_MO_booted_50 rfl ?_)
      refine a_go (by decide) (v_bipush d_MO_booted_51 kb_6 ?_)
      refine a_go (by decide) (v_iadd d_MO_booted_53 ?_)
      have o5 := And.left hok
      replace hok := And.right hok
      refine a_go (by decide) (v_iaload d_MO_booted_54 (by decide) rfl o5 ?_)
      refine a_go (by decide) (v_istore_n d_MO_booted_55 (by decide) ?_)
      refine a_go (by decide) (v_aload_n d_MO_booted_56 rfl ?_)
      refine a_go (by decide) (v_iload_n d_MO_booted_57 rfl ?_)
      refine a_go (by decide) (v_callV d_MO_booted_58 rfl (mm_spl 2 rfl) rfl (Nat.le_of_ble_eq_true rfl) rfl ?_)
      have o6 := And.left hok
      replace hok := And.right hok
      refine (i_m_isGood o6 ?_)
      refine a_go (by decide) (v_if_eq d_MO_booted_61 (t := 112) (by decide) (fun c2 => ?_) (fun c2 => ?_))
      · skip
        replace hok := mm_okp hok c2
        refine a_cut (by decide) ⟨rfl, _, [(0, _), (2, _)], (mm_all_c rfl (mm_all_c rfl (mm_all_n))), (Or.inl (⟨rfl, _, _, rfl, rfl, hok, (mm_mvVS hk (mm_ifn c1 (mm_ifp c2 rfl)))⟩))⟩
      · skip
        replace hok := mm_okn hok c2
        refine a_go (by decide) (v_iload_n d_MO_booted_64 rfl ?_)
        refine a_go (by decide) (v_if_le d_MO_booted_65 (t := 112) (by decide) (fun c3 => ?_) (fun c3 => ?_))
        · skip
          replace hok := mm_okp hok c3
          refine a_cut (by decide) ⟨rfl, _, [(0, _), (2, _)], (mm_all_c rfl (mm_all_c rfl (mm_all_n))), (Or.inl (⟨rfl, _, _, rfl, rfl, hok, (mm_mvVS hk (mm_ifn c1 (mm_ifn c2 (mm_ifp c3 rfl))))⟩))⟩
        · skip
          replace hok := mm_okn hok c3
          refine a_go (by decide) (v_aload_n d_MO_booted_68 rfl ?_)
          refine a_go (by decide) (v_bipush d_MO_booted_69 kb_m2 ?_)
          refine a_go (by decide) (v_bipush d_MO_booted_71 kb_m2 ?_)
          refine a_go (by decide) (v_iload_n d_MO_booted_73 rfl ?_)
          refine a_go (by decide) (v_iconst d_MO_booted_74 ki_1 ?_)
          refine a_go (by decide) (v_isub d_MO_booted_75 ?_)
          refine a_go (by decide) (v_bipush d_MO_booted_76 kb_m2 ?_)
          refine a_go (by decide) (v_ldc2 d_MO_booted_78 rfl ?_)
          refine a_go (by decide) (v_callV d_MO_booted_81 rfl (mm_spl 6 rfl) rfl (Nat.le_of_ble_eq_true rfl) rfl ?_)
          have o7 := And.left hok
          replace hok := And.right hok
          refine (i_m_appended o7 ?_)
          refine a_go (by decide) (v_if_ne d_MO_booted_84 (t := 89) (by decide) (fun c4 => ?_) (fun c4 => ?_))
          · skip
            replace hok := mm_okn hok c4
            refine a_go (by decide) (v_aload_n d_MO_booted_89 rfl ?_)
            refine a_go (by decide) (v_iload_n d_MO_booted_90 rfl ?_)
            refine a_go (by decide) (v_putI d_MO_booted_91 rfl rfl rfl ?_)
            refine a_go (by decide) (v_aload_n d_MO_booted_94 rfl ?_)
            refine a_go (by decide) (v_bipush d_MO_booted_95 kb_20 ?_)
            refine a_go (by decide) (v_putI d_MO_booted_97 rfl rfl rfl ?_)
            refine a_go (by decide) (v_aload_n d_MO_booted_100 rfl ?_)
            refine a_go (by decide) (v_getR d_MO_booted_101 rfl rfl rfl ?_)
            refine a_go (by decide) (v_iconst d_MO_booted_104 ki_4 ?_)
            refine a_go (by decide) (v_dup2 d_MO_booted_105 rfl rfl ?_)
            have o8 := And.left hok
            replace hok := And.right hok
            refine a_go (by decide) (v_iaload d_MO_booted_106 (by decide) rfl o8 ?_)
            refine a_go (by decide) (v_iconst d_MO_booted_107 ki_1 ?_)
            refine a_go (by decide) (v_iadd d_MO_booted_108 ?_)
            have o9 := And.left hok
            replace hok := And.right hok
            refine a_go (by decide) (v_iastore d_MO_booted_109 rfl o9 ?_)
            refine a_go (by decide) (v_iconst d_MO_booted_110 ki_1 ?_)
            refine a_go (by decide) (v_zreturn d_MO_booted_111 rfl (by decide) ?_)
            exact mm_fiVS hk (mm_ifn c1 (mm_ifn c2 (mm_ifn c3 (mm_ifn c4 rfl))))
          · skip
            replace hok := mm_okp hok c4
            refine a_go (by decide) (v_iconst d_MO_booted_87 ki_0 ?_)
            refine a_go (by decide) (v_zreturn d_MO_booted_88 rfl (by decide) ?_)
            exact mm_fiVS hk (mm_ifn c1 (mm_ifn c2 (mm_ifn c3 (mm_ifp c4 rfl))))
    · skip
      replace hok := mm_okp hok c1
      refine a_go (by decide) (v_iconst d_MO_booted_35 ki_1 ?_)
      refine a_go (by decide) (v_zreturn d_MO_booted_36 rfl (by decide) ?_)
      exact mm_fiVS hk (mm_ifp c1 rfl)
  · rintro as x0 K - k pc lv x - hinv
    rcases hinv with hinv | hinv
    · skip
      obtain ⟨rfl, f, u2, hkf, rfl, hok, hk⟩ := hinv
      cases f with
      | zero => exact False.elim hok
      | succ k =>
        subst hkf
        refine ⟨900, ?_⟩
        refine v_iload_n d_MO_booted_112 rfl ?_
        refine a_go (by decide) (v_sipush d_MO_booted_113 ks_255 ?_)
        refine a_go (by decide) (v_icmp_eq d_MO_booted_116 (t := 139) (by decide) (fun c5 => ?_) (fun c5 => ?_))
        · skip
          replace hok := mm_okp hok c5
          refine a_cut (by decide) ⟨rfl, _, [(0, _)], ?_, (mm_all_c rfl (mm_all_n)), (Or.inr (⟨rfl, _, rfl, rfl, hok, (mm_mvVS hk (mm_ifp c5 rfl))⟩))⟩
          exact mm_fall (by decide)
        · skip
          replace hok := mm_okn hok c5
          refine a_go (by decide) (v_aload_n d_MO_booted_119 rfl ?_)
          refine a_go (by decide) (v_bipush d_MO_booted_120 kb_m2 ?_)
          refine a_go (by decide) (v_sipush d_MO_booted_122 ks_255 ?_)
          refine a_go (by decide) (v_iconst d_MO_booted_125 ki_0 ?_)
          refine a_go (by decide) (v_bipush d_MO_booted_126 kb_m2 ?_)
          refine a_go (by decide) (v_ldc2 d_MO_booted_128 rfl ?_)
          refine a_go (by decide) (v_callV d_MO_booted_131 rfl (mm_spl 6 rfl) rfl (Nat.le_of_ble_eq_true rfl) rfl ?_)
          have o10 := And.left hok
          replace hok := And.right hok
          refine (i_m_appended o10 ?_)
          refine a_go (by decide) (v_if_ne d_MO_booted_134 (t := 139) (by decide) (fun c6 => ?_) (fun c6 => ?_))
          · skip
            replace hok := mm_okn hok c6
            refine a_cut (by decide) ⟨rfl, _, [(0, _)], ?_, (mm_all_c rfl (mm_all_n)), (Or.inr (⟨rfl, _, rfl, rfl, hok, (mm_mvVS hk (mm_ifn c5 (mm_ifn c6 rfl)))⟩))⟩
            exact mm_fall (by decide)
          · skip
            replace hok := mm_okp hok c6
            refine a_go (by decide) (v_iconst d_MO_booted_137 ki_0 ?_)
            refine a_go (by decide) (v_zreturn d_MO_booted_138 rfl (by decide) ?_)
            exact mm_fiVS hk (mm_ifn c5 (mm_ifp c6 rfl))
    · skip
      obtain ⟨rfl, f, hkf, rfl, hok, hk⟩ := hinv
      cases f with
      | zero => exact False.elim hok
      | succ k =>
        subst hkf
        rw [okl_m_booted_139] at hok
        rw [l_m_booted_139] at hk
        dsimp only at hok hk
        refine ⟨900, ?_⟩
        refine v_aload_n d_MO_booted_139 rfl ?_
        refine a_go (by decide) (v_callV d_MO_booted_140 rfl (mm_spl 1 rfl) rfl (Nat.le_of_ble_eq_true rfl) rfl ?_)
        have o11 := And.left hok
        replace hok := And.right hok
        refine (i_m_activeSlot o11 ?_)
        generalize e_m_activeSlot x = y13 at hok hk ⊢
        refine a_go (by decide) (v_istore d_MO_booted_143 (by decide) ?_)
        refine a_go (by decide) (v_aload_n d_MO_booted_145 rfl ?_)
        refine a_go (by decide) (v_iload d_MO_booted_146 rfl ?_)
        refine a_go (by decide) (v_callV d_MO_booted_148 rfl (mm_spl 2 rfl) rfl (Nat.le_of_ble_eq_true rfl) rfl ?_)
        have o12 := And.left hok
        replace hok := And.right hok
        refine (i_m_isGood o12 ?_)
        generalize e_m_isGood y13 x = g1 at hok hk ⊢
        refine a_go (by decide) (v_if_eq d_MO_booted_151 (t := 163) (by decide) (fun c7 => ?_) (fun c7 => ?_))
        · skip
          replace hok := mm_okp hok c7
          refine a_go (by decide) (v_aload_n d_MO_booted_163 rfl ?_)
          refine a_go (by decide) (v_iload d_MO_booted_164 rfl ?_)
          refine a_go (by decide) (v_callS d_MO_booted_166 rfl (mm_spl 1 rfl) rfl (Nat.le_of_ble_eq_true rfl) ?_)
          refine (i_m_otherOf ?_)
          generalize h14 : e_m_otherOf y13 x = y14 at hok hk ⊢
          refine a_go (by decide) (v_callV d_MO_booted_169 rfl (mm_spl 2 rfl) rfl (Nat.le_of_ble_eq_true rfl) rfl ?_)
          have o13 := And.left hok
          replace hok := And.right hok
          refine (i_m_isGood o13 ?_)
          generalize e_m_isGood y14 x = g2 at hok hk ⊢
          refine a_go (by decide) (v_if_eq d_MO_booted_172 (t := 207) (by decide) (fun c8 => ?_) (fun c8 => ?_))
          · skip
            replace hok := mm_okp hok c8
            refine a_go (by decide) (v_iconst d_MO_booted_207 ki_1 ?_)
            refine a_go (by decide) (v_zreturn d_MO_booted_208 rfl (by decide) ?_)
            exact mm_fiVS hk (mm_ifp c7 (mm_ifp c8 rfl))
          · skip
            replace hok := mm_okn hok c8
            refine a_go (by decide) (v_aload_n d_MO_booted_175 rfl ?_)
            refine a_go (by decide) (v_iload d_MO_booted_176 rfl ?_)
            refine a_go (by decide) (v_callS d_MO_booted_178 rfl (mm_spl 1 rfl) rfl (Nat.le_of_ble_eq_true rfl) ?_)
            refine (i_m_otherOf ?_)
            rw [h14]
            refine a_go (by decide) (v_bipush d_MO_booted_181 kb_m2 ?_)
            refine a_go (by decide) (v_bipush d_MO_booted_183 kb_m2 ?_)
            refine a_go (by decide) (v_bipush d_MO_booted_185 kb_m2 ?_)
            refine a_go (by decide) (v_ldc2 d_MO_booted_187 rfl ?_)
            refine a_go (by decide) (v_callV d_MO_booted_190 rfl (mm_spl 6 rfl) rfl (Nat.le_of_ble_eq_true rfl) rfl ?_)
            have o14 := And.left hok
            replace hok := And.right hok
            refine (i_m_appended o14 ?_)
            generalize e_m_appended y14 (-2) (-2) (-2) (-2) x = q14 at hok hk ⊢
            refine a_go (by decide) (v_if_ne d_MO_booted_193 (t := 198) (by decide) (fun c9 => ?_) (fun c9 => ?_))
            · skip
              replace hok := mm_okn hok c9
              refine a_go (by decide) (v_aload_n d_MO_booted_198 rfl ?_)
              refine a_go (by decide) (v_iload d_MO_booted_199 rfl ?_)
              refine a_go (by decide) (v_callS d_MO_booted_201 rfl (mm_spl 1 rfl) rfl (Nat.le_of_ble_eq_true rfl) ?_)
              refine (i_m_otherOf ?_)
              refine a_go (by decide) (v_putI d_MO_booted_204 rfl rfl rfl ?_)
              refine a_go (by decide) (v_iconst d_MO_booted_207 ki_1 ?_)
              refine a_go (by decide) (v_zreturn d_MO_booted_208 rfl (by decide) ?_)
              exact mm_fiVS hk (mm_ifp c7 (mm_ifn c8 (mm_ifn c9 rfl)))
            · skip
              replace hok := mm_okp hok c9
              refine a_go (by decide) (v_iconst d_MO_booted_196 ki_0 ?_)
              refine a_go (by decide) (v_zreturn d_MO_booted_197 rfl (by decide) ?_)
              exact mm_fiVS hk (mm_ifp c7 (mm_ifn c8 (mm_ifp c9 rfl)))
        · skip
          replace hok := mm_okn hok c7
          refine a_go (by decide) (v_aload_n d_MO_booted_154 rfl ?_)
          refine a_go (by decide) (v_iload d_MO_booted_155 rfl ?_)
          refine a_go (by decide) (v_putI d_MO_booted_157 rfl rfl rfl ?_)
          refine a_go (by decide) (v_goto d_MO_booted_160 (t := 207) (by decide) ?_)
          refine a_go (by decide) (v_iconst d_MO_booted_207 ki_1 ?_)
          refine a_go (by decide) (v_zreturn d_MO_booted_208 rfl (by decide) ?_)
          exact mm_fiVS hk (mm_ifn c7 rfl)
