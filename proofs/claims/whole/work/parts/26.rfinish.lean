-- TwoSlotsModel.finish()I
def l_m_finish_77 (k : Nat) (u1 : Int32) (u2 : Int32) (x : mm_S) : Int32 × mm_S := match k with
  | 0 => (0, x)
  | k + 1 =>
    if (64 : Int32) ≤ u2 then
      let q3 := e_m_appended (-2 : Int32) u1 (3 : Int32) (-2 : Int32) (-2 : Int64) x
      if q3.1 = (0 : Int32) then
        ((-106 : Int32), q3.2)
      else
        let x4 := mm_setI q3.2 106 (-1 : Int32)
        let x5 := mm_setA x4 13 (upd (x4.2.2 13) (Int32.toNatClampNeg (6 : Int32)) ((x4.2.2 13 (Int32.toNatClampNeg (6 : Int32))) + (1 : Int32)))
        (u1, x5)
    else
      let q6 := e_m_programmed ((e_m_headOf u1 x) + u2) 64 12 u2 x
      if q6.1 = (0 : Int32) then
        ((-106 : Int32), q6.2)
      else
        l_m_finish_77 (k) u1 (u2 + (16 : Int32)) q6.2
def okl_m_finish_77 (k : Nat) (u1 : Int32) (u2 : Int32) (x : mm_S) : Prop := match k with
  | 0 => False
  | k + 1 => if (64 : Int32) ≤ u2 then ((ok_m_appended (-2 : Int32) u1 (3 : Int32) (-2 : Int32) (-2 : Int64) x) ∧ (let q3 := e_m_appended (-2 : Int32) u1 (3 : Int32) (-2 : Int32) (-2 : Int64) x; if q3.1 = (0 : Int32) then (True) else (let x4 := mm_setI q3.2 106 (-1 : Int32); (vp_in (6 : Int32) 7) ∧ ((vp_in (6 : Int32) 7) ∧ (let x5 := mm_setA x4 13 (upd (x4.2.2 13) (Int32.toNatClampNeg (6 : Int32)) ((x4.2.2 13 (Int32.toNatClampNeg (6 : Int32))) + (1 : Int32))); True))))) else ((ok_m_programmed ((e_m_headOf u1 x) + u2) 64 12 u2 x) ∧ (let q6 := e_m_programmed ((e_m_headOf u1 x) + u2) 64 12 u2 x; if q6.1 = (0 : Int32) then (True) else (okl_m_finish_77 (k) u1 (u2 + (16 : Int32)) q6.2)))
def e_m_finish (x : mm_S) : Int32 × mm_S :=
  if (x.1 100) = (0 : Int32) then
    if (x.1 106) = (-1 : Int32) then
      ((-103 : Int32), x)
    else
      if (0 : Int32) < (e_m_awaited x) then
        ((-103 : Int32), x)
      else
        if (e_m_newest x) = (-1 : Int32) then
          ((-103 : Int32), x)
        else
          let y1 := x.1 106
          if (lg_cmp (e_m_bodyOf y1 64 12 (0 : Int32) x) (e_m_read 64 12 (20 : Int32) (8 : Int32) x)) = (0 : Int32) then
            l_m_finish_77 (mm_fu (0 : Int32) 64) y1 (0 : Int32) x
          else
            let x2 := mm_setI x 106 (-1 : Int32)
            ((-105 : Int32), x2)
  else
    ((-100 : Int32), x)
def ok_m_finish (x : mm_S) : Prop := if (x.1 100) = (0 : Int32) then (if (x.1 106) = (-1 : Int32) then (True) else ((ok_m_awaited  x) ∧ (if (0 : Int32) < (e_m_awaited x) then (True) else ((ok_m_newest  x) ∧ (if (e_m_newest x) = (-1 : Int32) then (True) else (let y1 := x.1 106; (ok_m_bodyOf y1 64 12 (0 : Int32) x) ∧ ((ok_m_read 64 12 (20 : Int32) (8 : Int32) x) ∧ (if (lg_cmp (e_m_bodyOf y1 64 12 (0 : Int32) x) (e_m_read 64 12 (20 : Int32) (8 : Int32) x)) = (0 : Int32) then (okl_m_finish_77 (mm_fu (0 : Int32) 64) y1 (0 : Int32) x) else (let x2 := mm_setI x 106 (-1 : Int32); True))))))))) else (True)
def S_m_finish : mm_P := fun as x K => as = [.ref 11] ∧ (ok_m_finish x) ∧ K (some (.int (e_m_finish x).1)) (e_m_finish x).2
theorem i_m_finish {x : mm_S} {K : mm_K} (hpre : (ok_m_finish x)) (hk : K (some (.int (e_m_finish x).1)) (e_m_finish x).2) : S_m_finish [.ref 11] x K := ⟨rfl, hpre, hk⟩
def G_m_finish : mm_G := (FT_MO, CI_MO, CJ_MO, mm_tb [(84, 1, S_m_headOf)], mm_tb [(162, 1, 5, S_m_awaited), (80, 1, 5, S_m_newest), (96, 4, 5, S_m_bodyOf), (68, 4, 5, S_m_read), (165, 6, 5, S_m_appended), (125, 4, 5, S_m_programmed)], none)
def rm_m_finish : Room := { frames := 3, cells := 0, slots := 0, locals := 83 }
abbrev Inv_m_finish : mm_K → List Value → mm_S → Nat → Nat → mm_V → mm_S → Prop := fun K _ _ k pc lv x => (pc = 77 ∧ ∃ (f : Nat) (u1 : Int32) (u2 : Int32), k = f + 0 ∧ lv = [(0, .ref 11), (1, .int u1), (2, .int u2)] ∧ okl_m_finish_77 f u1 u2 x ∧ K (some (.int (l_m_finish_77 f u1 u2 x).1)) (l_m_finish_77 f u1 u2 x).2)
set_option maxHeartbeats 40000000 in
set_option maxRecDepth 10000 in
theorem c_m_finish (l : Launch) : mm_Con l NW CL TB LL y_MO_finish b_MO_finish 3 (some .int) rm_m_finish S_m_finish := by
  refine mm_con G_m_finish [77] Inv_m_finish (by decide +kernel) tb_good LL_u nw_nest ?_ rfl ft_MO ci_MO cj_MO ?_ ?_ ?_ ?_
  · rintro as x K ⟨rfl, -⟩
    exact Nat.le_of_ble_eq_true rfl
  · exact mm_tb_e (List.forall_mem_cons.mpr ⟨mm_cst_i (c_m_headOf l) (mm_cb_i rfl rfl (by decide) (by decide) tc_MO_headOf ti_MO ⟨by decide, by decide, by decide +kernel⟩ (Or.inl tl_MO_84)) ts_MO_headOf, fun _ h => absurd h List.not_mem_nil⟩)
  · exact mm_tb_e (List.forall_mem_cons.mpr ⟨mm_cvt_i (c_m_awaited l) (mm_cb_i rfl rfl (by decide) (by decide) tc_MO_awaited ti_MO ⟨by decide, by decide, by decide +kernel⟩ (Or.inl tl_MO_162)) rfl tv_MO_awaited tx_MO_awaited, List.forall_mem_cons.mpr ⟨mm_cvt_i (c_m_newest l) (mm_cb_i rfl rfl (by decide) (by decide) tc_MO_newest ti_MO ⟨by decide, by decide, by decide +kernel⟩ (Or.inl tl_MO_80)) rfl tv_MO_newest tx_MO_newest, List.forall_mem_cons.mpr ⟨mm_cvt_i (c_m_bodyOf l) (mm_cb_i rfl rfl (by decide) (by decide) tc_MO_bodyOf ti_MO ⟨by decide, by decide, by decide +kernel⟩ (Or.inl tl_MO_96)) rfl tv_MO_bodyOf tx_MO_bodyOf, List.forall_mem_cons.mpr ⟨mm_cvt_i (c_m_read l) (mm_cb_i rfl rfl (by decide) (by decide) tc_MO_read ti_MO ⟨by decide, by decide, by decide +kernel⟩ (Or.inl tl_MO_68)) rfl tv_MO_read tx_MO_read, List.forall_mem_cons.mpr ⟨mm_cvt_i (c_m_appended l) (mm_cb_i rfl rfl (by decide) (by decide) tc_MO_appended ti_MO ⟨by decide, by decide, by decide +kernel⟩ (Or.inl tl_MO_165)) rfl tv_MO_appended tx_MO_appended, List.forall_mem_cons.mpr ⟨mm_cvt_i (c_m_programmed l) (mm_cb_i rfl rfl (by decide) (by decide) tc_MO_programmed ti_MO ⟨by decide, by decide, by decide +kernel⟩ (Or.inl tl_MO_125)) rfl tv_MO_programmed tx_MO_programmed, fun _ h => absurd h List.not_mem_nil⟩⟩⟩⟩⟩⟩)
  · rintro as x K ⟨rfl, hok, hk⟩
    refine ⟨400, ?_⟩
    refine v_aload_n d_MO_finish_0 rfl ?_
    refine a_go (by decide) (v_getI d_MO_finish_1 rfl rfl rfl ?_)
    refine a_go (by decide) (v_if_eq d_MO_finish_4 (t := 10) (by decide) (fun c1 => ?_) (fun c1 => ?_))
    · skip
      replace hok := mm_okp hok c1
      refine a_go (by decide) (v_aload_n d_MO_finish_10 rfl ?_)
      refine a_go (by decide) (v_getI d_MO_finish_11 rfl rfl rfl ?_)
      refine a_go (by decide) (v_iconst d_MO_finish_14 ki_m1 ?_)
      refine a_go (by decide) (v_icmp_eq d_MO_finish_15 (t := 33) (by decide) (fun c2 => ?_) (fun c2 => ?_))
      · skip
        replace hok := mm_okp hok c2
        refine a_go (by decide) (v_bipush d_MO_finish_33 kb_m103 ?_)
        refine a_go (by decide) (v_ireturn d_MO_finish_35 rfl rfl ?_)
        exact mm_fiVS hk (mm_ifp c1 (mm_ifp c2 rfl))
      · skip
        replace hok := mm_okn hok c2
        refine a_go (by decide) (v_aload_n d_MO_finish_18 rfl ?_)
        refine a_go (by decide) (v_callV d_MO_finish_19 rfl (mm_spl 1 rfl) rfl (Nat.le_of_ble_eq_true rfl) rfl ?_)
        have o1 := And.left hok
        replace hok := And.right hok
        refine (i_m_awaited o1 ?_)
        refine a_go (by decide) (v_if_gt d_MO_finish_22 (t := 33) (by decide) (fun c3 => ?_) (fun c3 => ?_))
        · skip
          replace hok := mm_okp hok c3
          refine a_go (by decide) (v_bipush d_MO_finish_33 kb_m103 ?_)
          refine a_go (by decide) (v_ireturn d_MO_finish_35 rfl rfl ?_)
          exact mm_fiVS hk (mm_ifp c1 (mm_ifn c2 (mm_ifp c3 rfl)))
        · skip
          replace hok := mm_okn hok c3
          refine a_go (by decide) (v_aload_n d_MO_finish_25 rfl ?_)
          refine a_go (by decide) (v_callV d_MO_finish_26 rfl (mm_spl 1 rfl) rfl (Nat.le_of_ble_eq_true rfl) rfl ?_)
          have o2 := And.left hok
          replace hok := And.right hok
          refine (i_m_newest o2 ?_)
          refine a_go (by decide) (v_iconst d_MO_finish_29 ki_m1 ?_)
          refine a_go (by decide) (v_icmp_ne d_MO_finish_30 (t := 36) (by decide) (fun c4 => ?_) (fun c4 => ?_))
          · skip
            replace hok := mm_okn hok c4
            refine a_go (by decide) (v_aload_n d_MO_finish_36 rfl ?_)
            refine a_go (by decide) (v_getI d_MO_finish_37 rfl rfl rfl ?_)
            refine a_go (by decide) (v_istore_n d_MO_finish_40 (by decide) ?_)
            refine a_go (by decide) (v_aload_n d_MO_finish_41 rfl ?_)
            refine a_go (by decide) (v_iload_n d_MO_finish_42 rfl ?_)
            refine a_go (by decide) (v_aload_n d_MO_finish_43 rfl ?_)
            refine a_go (by decide) (v_getR d_MO_finish_44 rfl rfl rfl ?_)
            refine a_go (by decide) (v_iconst d_MO_finish_47 ki_0 ?_)
            refine a_go (by decide) (v_callV d_MO_finish_48 rfl (mm_spl 4 rfl) rfl (Nat.le_of_ble_eq_true rfl) rfl ?_)
            have o3 := And.left hok
            replace hok := And.right hok
            refine (i_m_bodyOf rfl o3 ?_)
            refine a_go (by decide) (v_aload_n d_MO_finish_51 rfl ?_)
            refine a_go (by decide) (v_aload_n d_MO_finish_52 rfl ?_)
            refine a_go (by decide) (v_getR d_MO_finish_53 rfl rfl rfl ?_)
            refine a_go (by decide) (v_bipush d_MO_finish_56 kb_20 ?_)
            refine a_go (by decide) (v_bipush d_MO_finish_58 kb_8 ?_)
            refine a_go (by decide) (v_callV d_MO_finish_60 rfl (mm_spl 4 rfl) rfl (Nat.le_of_ble_eq_true rfl) rfl ?_)
            have o4 := And.left hok
            replace hok := And.right hok
            refine (i_m_read rfl o4 ?_)
            refine a_go (by decide) (v_lcmp d_MO_finish_63 ?_)
            refine a_go (by decide) (v_if_eq d_MO_finish_64 (t := 75) (by decide) (fun c5 => ?_) (fun c5 => ?_))
            · skip
              replace hok := mm_okp hok c5
              refine a_go (by decide) (v_iconst d_MO_finish_75 ki_0 ?_)
              refine a_go (by decide) (v_istore_n d_MO_finish_76 (by decide) ?_)
              refine a_cut (by decide) ⟨rfl, _, [(0, _), (1, _), (2, _)], (mm_all_c rfl (mm_all_c rfl (mm_all_c rfl (mm_all_n)))), ⟨rfl, _, _, _, rfl, rfl, hok, (mm_mvVS hk (mm_ifp c1 (mm_ifn c2 (mm_ifn c3 (mm_ifn c4 (mm_ifp c5 rfl))))))⟩⟩
            · skip
              replace hok := mm_okn hok c5
              refine a_go (by decide) (v_aload_n d_MO_finish_67 rfl ?_)
              refine a_go (by decide) (v_iconst d_MO_finish_68 ki_m1 ?_)
              refine a_go (by decide) (v_putI d_MO_finish_69 rfl rfl rfl ?_)
              refine a_go (by decide) (v_bipush d_MO_finish_72 kb_m105 ?_)
              refine a_go (by decide) (v_ireturn d_MO_finish_74 rfl rfl ?_)
              exact mm_fiVS hk (mm_ifp c1 (mm_ifn c2 (mm_ifn c3 (mm_ifn c4 (mm_ifn c5 rfl)))))
          · skip
            replace hok := mm_okp hok c4
            refine a_go (by decide) (v_bipush d_MO_finish_33 kb_m103 ?_)
            refine a_go (by decide) (v_ireturn d_MO_finish_35 rfl rfl ?_)
            exact mm_fiVS hk (mm_ifp c1 (mm_ifn c2 (mm_ifn c3 (mm_ifp c4 rfl))))
    · skip
      replace hok := mm_okn hok c1
      refine a_go (by decide) (v_bipush d_MO_finish_7 kb_m100 ?_)
      refine a_go (by decide) (v_ireturn d_MO_finish_9 rfl rfl ?_)
      exact mm_fiVS hk (mm_ifn c1 rfl)
  · rintro as x0 K - k pc lv x - hinv
    obtain ⟨rfl, f, u1, u2, hkf, rfl, hok, hk⟩ := hinv
    cases f with
    | zero => exact False.elim hok
    | succ k =>
      subst hkf
      refine ⟨900, ?_⟩
      refine v_iload_n d_MO_finish_77 rfl ?_
      refine a_go (by decide) (v_bipush d_MO_finish_78 kb_64 ?_)
      refine a_go (by decide) (v_icmp_ge d_MO_finish_80 (t := 110) (by decide) (fun c6 => ?_) (fun c6 => ?_))
      · skip
        replace hok := mm_okp hok c6
        refine a_go (by decide) (v_aload_n d_MO_finish_110 rfl ?_)
        refine a_go (by decide) (v_bipush d_MO_finish_111 kb_m2 ?_)
        refine a_go (by decide) (v_iload_n d_MO_finish_113 rfl ?_)
        refine a_go (by decide) (v_iconst d_MO_finish_114 ki_3 ?_)
        refine a_go (by decide) (v_bipush d_MO_finish_115 kb_m2 ?_)
        refine a_go (by decide) (v_ldc2 d_MO_finish_117 rfl ?_)
        refine a_go (by decide) (v_callV d_MO_finish_120 rfl (mm_spl 6 rfl) rfl (Nat.le_of_ble_eq_true rfl) rfl ?_)
        have o5 := And.left hok
        replace hok := And.right hok
        refine (i_m_appended o5 ?_)
        refine a_go (by decide) (v_if_ne d_MO_finish_123 (t := 129) (by decide) (fun c7 => ?_) (fun c7 => ?_))
        · skip
          replace hok := mm_okn hok c7
          refine a_go (by decide) (v_aload_n d_MO_finish_129 rfl ?_)
          refine a_go (by decide) (v_iconst d_MO_finish_130 ki_m1 ?_)
          refine a_go (by decide) (v_putI d_MO_finish_131 rfl rfl rfl ?_)
          refine a_go (by decide) (v_aload_n d_MO_finish_134 rfl ?_)
          refine a_go (by decide) (v_getR d_MO_finish_135 rfl rfl rfl ?_)
          refine a_go (by decide) (v_bipush d_MO_finish_138 kb_6 ?_)
          refine a_go (by decide) (v_dup2 d_MO_finish_140 rfl rfl ?_)
          have o6 := And.left hok
          replace hok := And.right hok
          refine a_go (by decide) (v_iaload d_MO_finish_141 (by decide) rfl o6 ?_)
          refine a_go (by decide) (v_iconst d_MO_finish_142 ki_1 ?_)
          refine a_go (by decide) (v_iadd d_MO_finish_143 ?_)
          have o7 := And.left hok
          replace hok := And.right hok
          refine a_go (by decide) (v_iastore d_MO_finish_144 rfl o7 ?_)
          refine a_go (by decide) (v_iload_n d_MO_finish_145 rfl ?_)
          refine a_go (by decide) (v_ireturn d_MO_finish_146 rfl rfl ?_)
          exact mm_fiVS hk (mm_ifp c6 (mm_ifn c7 rfl))
        · skip
          replace hok := mm_okp hok c7
          refine a_go (by decide) (v_bipush d_MO_finish_126 kb_m106 ?_)
          refine a_go (by decide) (v_ireturn d_MO_finish_128 rfl rfl ?_)
          exact mm_fiVS hk (mm_ifp c6 (mm_ifp c7 rfl))
      · skip
        replace hok := mm_okn hok c6
        refine a_go (by decide) (v_aload_n d_MO_finish_83 rfl ?_)
        refine a_go (by decide) (v_iload_n d_MO_finish_84 rfl ?_)
        refine a_go (by decide) (v_callS d_MO_finish_85 rfl (mm_spl 1 rfl) rfl (Nat.le_of_ble_eq_true rfl) ?_)
        refine (i_m_headOf ?_)
        refine a_go (by decide) (v_iload_n d_MO_finish_88 rfl ?_)
        refine a_go (by decide) (v_iadd d_MO_finish_89 ?_)
        refine a_go (by decide) (v_aload_n d_MO_finish_90 rfl ?_)
        refine a_go (by decide) (v_getR d_MO_finish_91 rfl rfl rfl ?_)
        refine a_go (by decide) (v_iload_n d_MO_finish_94 rfl ?_)
        refine a_go (by decide) (v_callV d_MO_finish_95 rfl (mm_spl 4 rfl) rfl (Nat.le_of_ble_eq_true rfl) rfl ?_)
        have o8 := And.left hok
        replace hok := And.right hok
        refine (i_m_programmed rfl o8 ?_)
        refine a_go (by decide) (v_if_ne d_MO_finish_98 (t := 104) (by decide) (fun c8 => ?_) (fun c8 => ?_))
        · skip
          replace hok := mm_okn hok c8
          refine a_go (by decide) (v_iinc d_MO_finish_104 (by decide) rfl ki_16 ?_)
          refine a_go (by decide) (v_goto d_MO_finish_107 (t := 77) (by decide) ?_)
          refine a_cut (by decide) ⟨rfl, _, [(0, _), (1, _), (2, _)], ?_, (mm_all_c rfl (mm_all_c rfl (mm_all_c rfl (mm_all_n)))), ⟨rfl, _, _, _, rfl, rfl, hok, (mm_mvVS hk (mm_ifn c6 (mm_ifn c8 rfl)))⟩⟩
          exact Nat.lt_succ_self _
        · skip
          replace hok := mm_okp hok c8
          refine a_go (by decide) (v_bipush d_MO_finish_101 kb_m106 ?_)
          refine a_go (by decide) (v_ireturn d_MO_finish_103 rfl rfl ?_)
          exact mm_fiVS hk (mm_ifn c6 (mm_ifp c8 rfl))
