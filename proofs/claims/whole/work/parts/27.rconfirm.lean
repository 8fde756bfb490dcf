-- TwoSlotsModel.boot()I
def e_m_boot (x : mm_S) : Int32 × mm_S :=
  if (x.1 100) = (0 : Int32) then
    let q1 := e_m_booted x
    if q1.1 = (0 : Int32) then
      ((-106 : Int32), q1.2)
    else
      (q1.2.1 103, q1.2)
  else
    ((-100 : Int32), x)
def ok_m_boot (x : mm_S) : Prop := if (x.1 100) = (0 : Int32) then ((ok_m_booted  x) ∧ (let q1 := e_m_booted x; if q1.1 = (0 : Int32) then (True) else (True))) else (True)
def S_m_boot : mm_P := fun as x K => as = [.ref 11] ∧ (ok_m_boot x) ∧ K (some (.int (e_m_boot x).1)) (e_m_boot x).2
theorem i_m_boot {x : mm_S} {K : mm_K} (hpre : (ok_m_boot x)) (hk : K (some (.int (e_m_boot x).1)) (e_m_boot x).2) : S_m_boot [.ref 11] x K := ⟨rfl, hpre, hk⟩
def G_m_boot : mm_G := (FT_MO, CI_MO, CJ_MO, mm_tb [], mm_tb [(172, 1, 5, S_m_booted)], none)
def rm_m_boot : Room := { frames := 5, cells := 0, slots := 0, locals := 122 }
set_option maxHeartbeats 40000000 in
set_option maxRecDepth 10000 in
theorem c_m_boot (l : Launch) : mm_Con l NW CL TB LL y_MO_boot b_MO_boot 1 (some .int) rm_m_boot S_m_boot := by
  refine mm_con G_m_boot [] (fun _ _ _ _ _ _ _ => False) (by decide +kernel) tb_good LL_u nw_nest ?_ rfl ft_MO ci_MO cj_MO ?_ ?_ ?_ ?_
  · rintro as x K ⟨rfl, -⟩
    exact Nat.le_of_ble_eq_true rfl
  · exact mm_tb_e (fun _ h => absurd h List.not_mem_nil)
  · exact mm_tb_e (List.forall_mem_cons.mpr ⟨mm_cvt_i (c_m_booted l) (mm_cb_i rfl rfl (by decide) (by decide) tc_MO_booted ti_MO ⟨by decide, by decide, by decide +kernel⟩ (Or.inl tl_MO_172)) rfl tv_MO_booted tx_MO_booted, fun _ h => absurd h List.not_mem_nil⟩)
  · rintro as x K ⟨rfl, hok, hk⟩
    refine ⟨400, ?_⟩
    refine v_aload_n d_MO_boot_0 rfl ?_
    refine a_go (by decide) (v_getI d_MO_boot_1 rfl rfl rfl ?_)
    refine a_go (by decide) (v_if_eq d_MO_boot_4 (t := 10) (by decide) (fun c1 => ?_) (fun c1 => ?_))
    · skip
      replace hok := mm_okp hok c1
      refine a_go (by decide) (v_aload_n d_MO_boot_10 rfl ?_)
      refine a_go (by decide) (v_callV d_MO_boot_11 rfl (mm_spl 1 rfl) rfl (Nat.le_of_ble_eq_true rfl) rfl ?_)
      have o1 := And.left hok
      replace hok := And.right hok
      refine (i_m_booted o1 ?_)
      refine a_go (by decide) (v_if_eq d_MO_boot_14 (t := 24) (by decide) (fun c2 => ?_) (fun c2 => ?_))
      · skip
        replace hok := mm_okp hok c2
        refine a_go (by decide) (v_bipush d_MO_boot_24 kb_m106 ?_)
        refine a_go (by decide) (v_ireturn d_MO_boot_26 rfl rfl ?_)
        exact mm_fiVS hk (mm_ifp c1 (mm_ifp c2 rfl))
      · skip
        replace hok := mm_okn hok c2
        refine a_go (by decide) (v_aload_n d_MO_boot_17 rfl ?_)
        refine a_go (by decide) (v_getI d_MO_boot_18 rfl rfl rfl ?_)
        refine a_go (by decide) (v_goto d_MO_boot_21 (t := 26) (by decide) ?_)
        refine a_go (by decide) (v_ireturn d_MO_boot_26 rfl rfl ?_)
        exact mm_fiVS hk (mm_ifp c1 (mm_ifn c2 rfl))
    · skip
      replace hok := mm_okn hok c1
      refine a_go (by decide) (v_bipush d_MO_boot_7 kb_m100 ?_)
      refine a_go (by decide) (v_ireturn d_MO_boot_9 rfl rfl ?_)
      exact mm_fiVS hk (mm_ifn c1 rfl)
  · intro as x K _ k pc lv x' h
    cases h
-- TwoSlotsModel.confirm()I
def e_m_confirm (x : mm_S) : Int32 × mm_S :=
  if (x.1 100) = (0 : Int32) then
    if (e_m_isTrial x) = (0 : Int32) then
      ((-103 : Int32), x)
    else
      if (e_m_newest x) = (-1 : Int32) then
        ((-103 : Int32), x)
      else
        let y1 := e_m_read 4096 10 ((e_m_headOf (x.1 103) x) + (4 : Int32)) (4 : Int32) x
        if (lg_cmp y1 (e_m_counter x)) ≤ (0 : Int32) then
          let y2 := e_m_counter x
          let q3 := e_m_appended (x.1 103) (255 : Int32) (0 : Int32) (-2 : Int32) y2 x
          if q3.1 = (0 : Int32) then
            ((-106 : Int32), q3.2)
          else
            let x4 := mm_setI q3.2 104 (0 : Int32)
            (Int64.toInt32 (e_m_counter x4), x4)
        else
          let q5 := e_m_appended (x.1 103) (255 : Int32) (0 : Int32) (-2 : Int32) y1 x
          if q5.1 = (0 : Int32) then
            ((-106 : Int32), q5.2)
          else
            let x6 := mm_setI q5.2 104 (0 : Int32)
            (Int64.toInt32 (e_m_counter x6), x6)
  else
    ((-100 : Int32), x)
def ok_m_confirm (x : mm_S) : Prop := if (x.1 100) = (0 : Int32) then (if (e_m_isTrial x) = (0 : Int32) then (True) else ((ok_m_newest  x) ∧ (if (e_m_newest x) = (-1 : Int32) then (True) else ((ok_m_read 4096 10 ((e_m_headOf (x.1 103) x) + (4 : Int32)) (4 : Int32) x) ∧ (let y1 := e_m_read 4096 10 ((e_m_headOf (x.1 103) x) + (4 : Int32)) (4 : Int32) x; (ok_m_counter  x) ∧ (if (lg_cmp y1 (e_m_counter x)) ≤ (0 : Int32) then ((ok_m_counter  x) ∧ (let y2 := e_m_counter x; (ok_m_appended (x.1 103) (255 : Int32) (0 : Int32) (-2 : Int32) y2 x) ∧ (let q3 := e_m_appended (x.1 103) (255 : Int32) (0 : Int32) (-2 : Int32) y2 x; if q3.1 = (0 : Int32) then (True) else (let x4 := mm_setI q3.2 104 (0 : Int32); (ok_m_counter  x4) ∧ (True))))) else ((ok_m_appended (x.1 103) (255 : Int32) (0 : Int32) (-2 : Int32) y1 x) ∧ (let q5 := e_m_appended (x.1 103) (255 : Int32) (0 : Int32) (-2 : Int32) y1 x; if q5.1 = (0 : Int32) then (True) else (let x6 := mm_setI q5.2 104 (0 : Int32); (ok_m_counter  x6) ∧ (True)))))))))) else (True)
def S_m_confirm : mm_P := fun as x K => as = [.ref 11] ∧ (ok_m_confirm x) ∧ K (some (.int (e_m_confirm x).1)) (e_m_confirm x).2
theorem i_m_confirm {x : mm_S} {K : mm_K} (hpre : (ok_m_confirm x)) (hk : K (some (.int (e_m_confirm x).1)) (e_m_confirm x).2) : S_m_confirm [.ref 11] x K := ⟨rfl, hpre, hk⟩
def G_m_confirm : mm_G := (FT_MO, CI_MO, CJ_MO, mm_tb [(84, 1, S_m_headOf)], mm_tb [(149, 1, 5, S_m_isTrial), (80, 1, 5, S_m_newest), (68, 4, 5, S_m_read), (92, 1, 5, S_m_counter), (165, 6, 5, S_m_appended)], none)
def rm_m_confirm : Room := { frames := 3, cells := 0, slots := 0, locals := 83 }
set_option maxHeartbeats 40000000 in
set_option maxRecDepth 10000 in
theorem c_m_confirm (l : Launch) : mm_Con l NW CL TB LL y_MO_confirm b_MO_confirm 5 (some .int) rm_m_confirm S_m_confirm := by
  refine mm_con G_m_confirm [] (fun _ _ _ _ _ _ _ => False) (by decide +kernel) tb_good LL_u nw_nest ?_ rfl ft_MO ci_MO cj_MO ?_ ?_ ?_ ?_
  · rintro as x K ⟨rfl, -⟩
    exact Nat.le_of_ble_eq_true rfl
  · exact mm_tb_e (List.forall_mem_cons.mpr ⟨mm_cst_i (c_m_headOf l) (mm_cb_i rfl rfl (by decide) (by decide) tc_MO_headOf ti_MO ⟨by decide, by decide, by decide +kernel⟩ (Or.inl tl_MO_84)) ts_MO_headOf, fun _ h => absurd h List.not_mem_nil⟩)
  · exact mm_tb_e (List.forall_mem_cons.mpr ⟨mm_cvt_i (c_m_isTrial l) (mm_cb_i rfl rfl (by decide) (by decide) tc_MO_isTrial ti_MO ⟨by decide, by decide, by decide +kernel⟩ (Or.inl tl_MO_149)) rfl tv_MO_isTrial tx_MO_isTrial, List.forall_mem_cons.mpr ⟨mm_cvt_i (c_m_newest l) (mm_cb_i rfl rfl (by decide) (by decide) tc_MO_newest ti_MO ⟨by decide, by decide, by decide +kernel⟩ (Or.inl tl_MO_80)) rfl tv_MO_newest tx_MO_newest, List.forall_mem_cons.mpr ⟨mm_cvt_i (c_m_read l) (mm_cb_i rfl rfl (by decide) (by decide) tc_MO_read ti_MO ⟨by decide, by decide, by decide +kernel⟩ (Or.inl tl_MO_68)) rfl tv_MO_read tx_MO_read, List.forall_mem_cons.mpr ⟨mm_cvt_i (c_m_counter l) (mm_cb_i rfl rfl (by decide) (by decide) tc_MO_counter ti_MO ⟨by decide, by decide, by decide +kernel⟩ (Or.inl tl_MO_92)) rfl tv_MO_counter tx_MO_counter, List.forall_mem_cons.mpr ⟨mm_cvt_i (c_m_appended l) (mm_cb_i rfl rfl (by decide) (by decide) tc_MO_appended ti_MO ⟨by decide, by decide, by decide +kernel⟩ (Or.inl tl_MO_165)) rfl tv_MO_appended tx_MO_appended, fun _ h => absurd h List.not_mem_nil⟩⟩⟩⟩⟩)
  · rintro as x K ⟨rfl, hok, hk⟩
    refine ⟨400, ?_⟩
    refine v_aload_n d_MO_confirm_0 rfl ?_
    refine a_go (by decide) (v_getI d_MO_confirm_1 rfl rfl rfl ?_)
    refine a_go (by decide) (v_if_eq d_MO_confirm_4 (t := 10) (by decide) (fun c1 => ?_) (fun c1 => ?_))
    · skip
      replace hok := mm_okp hok c1
      refine a_go (by decide) (v_aload_n d_MO_confirm_10 rfl ?_)
      refine a_go (by decide) (v_callV d_MO_confirm_11 rfl (mm_spl 1 rfl) rfl (Nat.le_of_ble_eq_true rfl) rfl ?_)
      refine (i_m_isTrial ?_)
      refine a_go (by decide) (v_if_eq d_MO_confirm_14 (t := 25) (by decide) (fun c2 => ?_) (fun c2 => ?_))
      · skip
        replace hok := mm_okp hok c2
        refine a_go (by decide) (v_bipush d_MO_confirm_25 kb_m103 ?_)
        refine a_go (by decide) (v_ireturn d_MO_confirm_27 rfl rfl ?_)
        exact mm_fiVS hk (mm_ifp c1 (mm_ifp c2 rfl))
      · skip
        replace hok := mm_okn hok c2
        refine a_go (by decide) (v_aload_n d_MO_confirm_17 rfl ?_)
        refine a_go (by decide) (v_callV d_MO_confirm_18 rfl (mm_spl 1 rfl) rfl (Nat.le_of_ble_eq_true rfl) rfl ?_)
        have o1 := And.left hok
        replace hok := And.right hok
        refine (i_m_newest o1 ?_)
        refine a_go (by decide) (v_iconst d_MO_confirm_21 ki_m1 ?_)
        refine a_go (by decide) (v_icmp_ne d_MO_confirm_22 (t := 28) (by decide) (fun c3 => ?_) (fun c3 => ?_))
        · skip
          replace hok := mm_okn hok c3
          refine a_go (by decide) (v_aload_n d_MO_confirm_28 rfl ?_)
          refine a_go (by decide) (v_aload_n d_MO_confirm_29 rfl ?_)
          refine a_go (by decide) (v_getR d_MO_confirm_30 rfl rfl rfl ?_)
          refine a_go (by decide) (v_aload_n d_MO_confirm_33 rfl ?_)
          refine a_go (by decide) (v_getI d_MO_confirm_34 rfl rfl rfl ?_)
          refine a_go (by decide) (v_callS d_MO_confirm_37 rfl (mm_spl 1 rfl) rfl (Nat.le_of_ble_eq_true rfl) ?_)
          refine (i_m_headOf ?_)
          refine a_go (by decide) (v_iconst d_MO_confirm_40 ki_4 ?_)
          refine a_go (by decide) (v_iadd d_MO_confirm_41 ?_)
          refine a_go (by decide) (v_iconst d_MO_confirm_42 ki_4 ?_)
          refine a_go (by decide) (v_callV d_MO_confirm_43 rfl (mm_spl 4 rfl) rfl (Nat.le_of_ble_eq_true rfl) rfl ?_)
          have o2 := And.left hok
          replace hok := And.right hok
          refine (i_m_read rfl o2 ?_)
          refine a_go (by decide) (v_lstore_n d_MO_confirm_46 (by decide) ?_)
          refine a_go (by decide) (v_lload_n d_MO_confirm_47 rfl ?_)
          refine a_go (by decide) (v_aload_n d_MO_confirm_48 rfl ?_)
          refine a_go (by decide) (v_callV d_MO_confirm_49 rfl (mm_spl 1 rfl) rfl (Nat.le_of_ble_eq_true rfl) rfl ?_)
          have o3 := And.left hok
          replace hok := And.right hok
          refine (i_m_counter o3 ?_)
          refine a_go (by decide) (v_lcmp d_MO_confirm_52 ?_)
          refine a_go (by decide) (v_if_le d_MO_confirm_53 (t := 60) (by decide) (fun c4 => ?_) (fun c4 => ?_))
          · skip
            replace hok := mm_okp hok c4
            refine a_go (by decide) (v_aload_n d_MO_confirm_60 rfl ?_)
            refine a_go (by decide) (v_callV d_MO_confirm_61 rfl (mm_spl 1 rfl) rfl (Nat.le_of_ble_eq_true rfl) rfl ?_)
            have o4 := And.left hok
            replace hok := And.right hok
            refine (i_m_counter o4 ?_)
            refine a_go (by decide) (v_lstore_n d_MO_confirm_64 (by decide) ?_)
            refine a_go (by decide) (v_aload_n d_MO_confirm_65 rfl ?_)
            refine a_go (by decide) (v_aload_n d_MO_confirm_66 rfl ?_)
            refine a_go (by decide) (v_getI d_MO_confirm_67 rfl rfl rfl ?_)
            refine a_go (by decide) (v_sipush d_MO_confirm_70 ks_255 ?_)
            refine a_go (by decide) (v_iconst d_MO_confirm_73 ki_0 ?_)
            refine a_go (by decide) (v_bipush d_MO_confirm_74 kb_m2 ?_)
            refine a_go (by decide) (v_lload_n d_MO_confirm_76 rfl ?_)
            refine a_go (by decide) (v_callV d_MO_confirm_77 rfl (mm_spl 6 rfl) rfl (Nat.le_of_ble_eq_true rfl) rfl ?_)
            have o5 := And.left hok
            replace hok := And.right hok
            refine (i_m_appended o5 ?_)
            refine a_go (by decide) (v_if_ne d_MO_confirm_80 (t := 86) (by decide) (fun c5 => ?_) (fun c5 => ?_))
            · skip
              replace hok := mm_okn hok c5
              refine a_go (by decide) (v_aload_n d_MO_confirm_86 rfl ?_)
              refine a_go (by decide) (v_iconst d_MO_confirm_87 ki_0 ?_)
              refine a_go (by decide) (v_putI d_MO_confirm_88 rfl rfl rfl ?_)
              refine a_go (by decide) (v_aload_n d_MO_confirm_91 rfl ?_)
              refine a_go (by decide) (v_callV d_MO_confirm_92 rfl (mm_spl 1 rfl) rfl (Nat.le_of_ble_eq_true rfl) rfl ?_)
              have o6 := And.left hok
              replace hok := And.right hok
              refine (i_m_counter o6 ?_)
              refine a_go (by decide) (v_l2i d_MO_confirm_95 ?_)
              refine a_go (by decide) (v_ireturn d_MO_confirm_96 rfl rfl ?_)
              exact mm_fiVS hk (mm_ifp c1 (mm_ifn c2 (mm_ifn c3 (mm_ifp c4 (mm_ifn c5 rfl)))))
            · skip
              replace hok := mm_okp hok c5
              refine a_go (by decide) (v_bipush d_MO_confirm_83 kb_m106 ?_)
              refine a_go (by decide) (v_ireturn d_MO_confirm_85 rfl rfl ?_)
              exact mm_fiVS hk (mm_ifp c1 (mm_ifn c2 (mm_ifn c3 (mm_ifp c4 (mm_ifp c5 rfl)))))
          · skip
            replace hok := mm_okn hok c4
            refine a_go (by decide) (v_lload_n d_MO_confirm_56 rfl ?_)
            refine a_go (by decide) (v_goto d_MO_confirm_57 (t := 64) (by decide) ?_)
            refine a_go (by decide) (v_lstore_n d_MO_confirm_64 (by decide) ?_)
            refine a_go (by decide) (v_aload_n d_MO_confirm_65 rfl ?_)
            refine a_go (by decide) (v_aload_n d_MO_confirm_66 rfl ?_)
            refine a_go (by decide) (v_getI d_MO_confirm_67 rfl rfl rfl ?_)
            refine a_go (by decide) (v_sipush d_MO_confirm_70 ks_255 ?_)
            refine a_go (by decide) (v_iconst d_MO_confirm_73 ki_0 ?_)
            refine a_go (by decide) (v_bipush d_MO_confirm_74 kb_m2 ?_)
            refine a_go (by decide) (v_lload_n d_MO_confirm_76 rfl ?_)
            refine a_go (by decide) (v_callV d_MO_confirm_77 rfl (mm_spl 6 rfl) rfl (Nat.le_of_ble_eq_true rfl) rfl ?_)
            have o7 := And.left hok
            replace hok := And.right hok
            refine (i_m_appended o7 ?_)
            refine a_go (by decide) (v_if_ne d_MO_confirm_80 (t := 86) (by decide) (fun c6 => ?_) (fun c6 => ?_))
            · skip
              replace hok := mm_okn hok c6
              refine a_go (by decide) (v_aload_n d_MO_confirm_86 rfl ?_)
              refine a_go (by decide) (v_iconst d_MO_confirm_87 ki_0 ?_)
              refine a_go (by decide) (v_putI d_MO_confirm_88 rfl rfl rfl ?_)
              refine a_go (by decide) (v_aload_n d_MO_confirm_91 rfl ?_)
              refine a_go (by decide) (v_callV d_MO_confirm_92 rfl (mm_spl 1 rfl) rfl (Nat.le_of_ble_eq_true rfl) rfl ?_)
              have o8 := And.left hok
              replace hok := And.right hok
              refine (i_m_counter o8 ?_)
              refine a_go (by decide) (v_l2i d_MO_confirm_95 ?_)
              refine a_go (by decide) (v_ireturn d_MO_confirm_96 rfl rfl ?_)
              exact mm_fiVS hk (mm_ifp c1 (mm_ifn c2 (mm_ifn c3 (mm_ifn c4 (mm_ifn c6 rfl)))))
            · skip
              replace hok := mm_okp hok c6
              refine a_go (by decide) (v_bipush d_MO_confirm_83 kb_m106 ?_)
              refine a_go (by decide) (v_ireturn d_MO_confirm_85 rfl rfl ?_)
              exact mm_fiVS hk (mm_ifp c1 (mm_ifn c2 (mm_ifn c3 (mm_ifn c4 (mm_ifp c6 rfl)))))
        · skip
          replace hok := mm_okp hok c3
          refine a_go (by decide) (v_bipush d_MO_confirm_25 kb_m103 ?_)
          refine a_go (by decide) (v_ireturn d_MO_confirm_27 rfl rfl ?_)
          exact mm_fiVS hk (mm_ifp c1 (mm_ifn c2 (mm_ifp c3 rfl)))
    · skip
      replace hok := mm_okn hok c1
      refine a_go (by decide) (v_bipush d_MO_confirm_7 kb_m100 ?_)
      refine a_go (by decide) (v_ireturn d_MO_confirm_9 rfl rfl ?_)
      exact mm_fiVS hk (mm_ifn c1 rfl)
  · intro as x K _ k pc lv x' h
    cases h
-- TwoSlotsModel.tick(I)I
def l_m_tick_29 (k : Nat) (u1 : Int32) (u2 : Int32) (u3 : Int32) (x : mm_S) : Int32 × mm_S := match k with
  | 0 => (0, x)
  | k + 1 =>
    if u1 ≤ u3 then
      (u2, x)
    else
      if (e_m_isTrial x) = (0 : Int32) then
        l_m_tick_29 (k) u1 u2 (u3 + (1 : Int32)) x
      else
        let x1 := mm_setI x 104 ((x.1 104) - (1 : Int32))
        if (x1.1 104) = (0 : Int32) then
          let x2 := mm_setA x1 13 (upd (x1.2.2 13) (Int32.toNatClampNeg (5 : Int32)) ((x1.2.2 13 (Int32.toNatClampNeg (5 : Int32))) + (1 : Int32)))
          let q3 := e_m_booted x2
          if q3.1 = (0 : Int32) then
            ((-106 : Int32), q3.2)
          else
            l_m_tick_29 (k) u1 (u2 + (1 : Int32)) (u3 + (1 : Int32)) q3.2
        else
          l_m_tick_29 (k) u1 u2 (u3 + (1 : Int32)) x1
def okl_m_tick_29 (k : Nat) (u1 : Int32) (u2 : Int32) (u3 : Int32) (x : mm_S) : Prop := match k with
  | 0 => False
  | k + 1 => if u1 ≤ u3 then (True) else (if (e_m_isTrial x) = (0 : Int32) then (okl_m_tick_29 (k) u1 u2 (u3 + (1 : Int32)) x) else (let x1 := mm_setI x 104 ((x.1 104) - (1 : Int32)); if (x1.1 104) = (0 : Int32) then ((vp_in (5 : Int32) 7) ∧ ((vp_in (5 : Int32) 7) ∧ (let x2 := mm_setA x1 13 (upd (x1.2.2 13) (Int32.toNatClampNeg (5 : Int32)) ((x1.2.2 13 (Int32.toNatClampNeg (5 : Int32))) + (1 : Int32))); (ok_m_booted  x2) ∧ (let q3 := e_m_booted x2; if q3.1 = (0 : Int32) then (True) else (okl_m_tick_29 (k) u1 (u2 + (1 : Int32)) (u3 + (1 : Int32)) q3.2))))) else (okl_m_tick_29 (k) u1 u2 (u3 + (1 : Int32)) x1)))
def e_m_tick (v0 : Int32) (x : mm_S) : Int32 × mm_S :=
  if (x.1 100) = (0 : Int32) then
    if (e_m_in (Int32.toInt64 v0) (1 : Int64) (100 : Int64) x) = (0 : Int32) then
      ((-102 : Int32), x)
    else
      l_m_tick_29 (mm_fu (0 : Int32) v0) v0 (0 : Int32) (0 : Int32) x
  else
    ((-100 : Int32), x)
def ok_m_tick (v0 : Int32) (x : mm_S) : Prop := if (x.1 100) = (0 : Int32) then (if (e_m_in (Int32.toInt64 v0) (1 : Int64) (100 : Int64) x) = (0 : Int32) then (True) else (okl_m_tick_29 (mm_fu (0 : Int32) v0) v0 (0 : Int32) (0 : Int32) x)) else (True)
def S_m_tick : mm_P := fun as x K => ∃ (v0 : Int32), as = [.ref 11, .int v0] ∧ (ok_m_tick v0 x) ∧ K (some (.int (e_m_tick v0 x).1)) (e_m_tick v0 x).2
theorem i_m_tick {v0 : Int32} {x : mm_S} {K : mm_K} (hpre : (ok_m_tick v0 x)) (hk : K (some (.int (e_m_tick v0 x).1)) (e_m_tick v0 x).2) : S_m_tick [.ref 11, .int v0] x K := ⟨_, rfl, hpre, hk⟩
def G_m_tick : mm_G := (FT_MO, CI_MO, CJ_MO, mm_tb [(76, 3, S_m_in)], mm_tb [(149, 1, 5, S_m_isTrial), (172, 1, 5, S_m_booted)], none)
def rm_m_tick : Room := { frames := 5, cells := 0, slots := 0, locals := 122 }
abbrev Inv_m_tick : mm_K → List Value → mm_S → Nat → Nat → mm_V → mm_S → Prop := fun K _ _ k pc lv x => (pc = 29 ∧ ∃ (f : Nat) (u1 : Int32) (u2 : Int32) (u3 : Int32), k = f + 0 ∧ lv = [(0, .ref 11), (1, .int u1), (2, .int u2), (3, .int u3)] ∧ okl_m_tick_29 f u1 u2 u3 x ∧ K (some (.int (l_m_tick_29 f u1 u2 u3 x).1)) (l_m_tick_29 f u1 u2 u3 x).2)
set_option maxHeartbeats 40000000 in
set_option maxRecDepth 10000 in
theorem c_m_tick (l : Launch) : mm_Con l NW CL TB LL y_MO_tick b_MO_tick 4 (some .int) rm_m_tick S_m_tick := by
  refine mm_con G_m_tick [29] Inv_m_tick (by decide +kernel) tb_good LL_u nw_nest ?_ rfl ft_MO ci_MO cj_MO ?_ ?_ ?_ ?_
  · rintro as x K ⟨v0, rfl, -⟩
    exact Nat.le_of_ble_eq_true rfl
  · exact mm_tb_e (List.forall_mem_cons.mpr ⟨mm_cst_i (c_m_in l) (mm_cb_i rfl rfl (by decide) (by decide) tc_MO_in ti_MO ⟨by decide, by decide, by decide +kernel⟩ (Or.inl tl_MO_76)) ts_MO_in, fun _ h => absurd h List.not_mem_nil⟩)
  · exact mm_tb_e (List.forall_mem_cons.mpr ⟨mm_cvt_i (c_m_isTrial l) (mm_cb_i rfl rfl (by decide) (by decide) tc_MO_isTrial ti_MO ⟨by decide, by decide, by decide +kernel⟩ (Or.inl tl_MO_149)) rfl tv_MO_isTrial tx_MO_isTrial, List.forall_mem_cons.mpr ⟨mm_cvt_i (c_m_booted l) (mm_cb_i rfl rfl (by decide) (by decide) tc_MO_booted ti_MO ⟨by decide, by decide, by decide +kernel⟩ (Or.inl tl_MO_172)) rfl tv_MO_booted tx_MO_booted, fun _ h => absurd h List.not_mem_nil⟩⟩)
  · rintro as x K ⟨v0, rfl, hok, hk⟩
    refine ⟨400, ?_⟩
    refine v_aload_n d_MO_tick_0 rfl ?_
    refine a_go (by decide) (v_getI d_MO_tick_1 rfl rfl rfl ?_)
    refine a_go (by decide) (v_if_eq d_MO_tick_4 (t := 10) (by decide) (fun c1 => ?_) (fun c1 => ?_))
    · skip
      replace hok := mm_okp hok c1
      refine a_go (by decide) (v_iload_n d_MO_tick_10 rfl ?_)
      refine a_go (by decide) (v_i2l d_MO_tick_11 ?_)
      refine a_go (by decide) (v_lconst d_MO_tick_12 kl_1 ?_)
      refine a_go (by decide) (v_ldc2 d_MO_tick_13 rfl ?_)
      refine a_go (by decide) (v_callS d_MO_tick_16 rfl (mm_spl 3 rfl) rfl (Nat.le_of_ble_eq_true rfl) ?_)
      refine (i_m_in ?_)
      refine a_go (by decide) (v_if_ne d_MO_tick_19 (t := 25) (by decide) (fun c2 => ?_) (fun c2 => ?_))
      · skip
        replace hok := mm_okn hok c2
        refine a_go (by decide) (v_iconst d_MO_tick_25 ki_0 ?_)
        refine a_go (by decide) (v_istore_n d_MO_tick_26 (by decide) ?_)
        refine a_go (by decide) (v_iconst d_MO_tick_27 ki_0 ?_)
        refine a_go (by decide) (v_istore_n d_MO_tick_28 (by decide) ?_)
        refine a_cut (by decide) ⟨rfl, _, [(0, _), (1, _), (2, _), (3, _)], (mm_all_c rfl (mm_all_c rfl (mm_all_c rfl (mm_all_c rfl (mm_all_n))))), ⟨rfl, _, _, _, _, rfl, rfl, hok, (mm_mvVS hk (mm_ifp c1 (mm_ifn c2 rfl)))⟩⟩
      · skip
        replace hok := mm_okp hok c2
        refine a_go (by decide) (v_bipush d_MO_tick_22 kb_m102 ?_)
        refine a_go (by decide) (v_ireturn d_MO_tick_24 rfl rfl ?_)
        exact mm_fiVS hk (mm_ifp c1 (mm_ifp c2 rfl))
    · skip
      replace hok := mm_okn hok c1
      refine a_go (by decide) (v_bipush d_MO_tick_7 kb_m100 ?_)
      refine a_go (by decide) (v_ireturn d_MO_tick_9 rfl rfl ?_)
      exact mm_fiVS hk (mm_ifn c1 rfl)
  · rintro as x0 K - k pc lv x - hinv
    obtain ⟨rfl, f, u1, u2, u3, hkf, rfl, hok, hk⟩ := hinv
    cases f with
    | zero => exact False.elim hok
    | succ k =>
      subst hkf
      refine ⟨900, ?_⟩
      refine v_iload_n d_MO_tick_29 rfl ?_
      refine a_go (by decide) (v_iload_n d_MO_tick_30 rfl ?_)
      refine a_go (by decide) (v_icmp_ge d_MO_tick_31 (t := 87) (by decide) (fun c3 => ?_) (fun c3 => ?_))
      · skip
        replace hok := mm_okp hok c3
        refine a_go (by decide) (v_iload_n d_MO_tick_87 rfl ?_)
        refine a_go (by decide) (v_ireturn d_MO_tick_88 rfl rfl ?_)
        exact mm_fiVS hk (mm_ifp c3 rfl)
      · skip
        replace hok := mm_okn hok c3
        refine a_go (by decide) (v_aload_n d_MO_tick_34 rfl ?_)
        refine a_go (by decide) (v_callV d_MO_tick_35 rfl (mm_spl 1 rfl) rfl (Nat.le_of_ble_eq_true rfl) rfl ?_)
        refine (i_m_isTrial ?_)
        refine a_go (by decide) (v_if_eq d_MO_tick_38 (t := 81) (by decide) (fun c4 => ?_) (fun c4 => ?_))
        · skip
          replace hok := mm_okp hok c4
          refine a_go (by decide) (v_iinc d_MO_tick_81 (by decide) rfl ki_1 ?_)
          refine a_go (by decide) (v_goto d_MO_tick_84 (t := 29) (by decide) ?_)
          refine a_cut (by decide) ⟨rfl, _, [(0, _), (1, _), (2, _), (3, _)], ?_, (mm_all_c rfl (mm_all_c rfl (mm_all_c rfl (mm_all_c rfl (mm_all_n))))), ⟨rfl, _, _, _, _, rfl, rfl, hok, (mm_mvVS hk (mm_ifn c3 (mm_ifp c4 rfl)))⟩⟩
          exact Nat.lt_succ_self _
        · skip
          replace hok := mm_okn hok c4
          refine a_go (by decide) (v_aload_n d_MO_tick_41 rfl ?_)
          refine a_go (by decide) (v_dup d_MO_tick_42 rfl ?_)
          refine a_go (by decide) (v_getI d_MO_tick_43 rfl rfl rfl ?_)
          refine a_go (by decide) (v_iconst d_MO_tick_46 ki_1 ?_)
          refine a_go (by decide) (v_isub d_MO_tick_47 ?_)
          refine a_go (by decide) (v_putI d_MO_tick_48 rfl rfl rfl ?_)
          refine a_go (by decide) (v_aload_n d_MO_tick_51 rfl ?_)
          refine a_go (by decide) (v_getI d_MO_tick_52 rfl rfl rfl ?_)
          refine a_go (by decide) (v_if_ne d_MO_tick_55 (t := 81) (by decide) (fun c5 => ?_) (fun c5 => ?_))
          · skip
            replace hok := mm_okn hok c5
            refine a_go (by decide) (v_iinc d_MO_tick_81 (by decide) rfl ki_1 ?_)
            refine a_go (by decide) (v_goto d_MO_tick_84 (t := 29) (by decide) ?_)
            refine a_cut (by decide) ⟨rfl, _, [(0, _), (1, _), (2, _), (3, _)], ?_, (mm_all_c rfl (mm_all_c rfl (mm_all_c rfl (mm_all_c rfl (mm_all_n))))), ⟨rfl, _, _, _, _, rfl, rfl, hok, (mm_mvVS hk (mm_ifn c3 (mm_ifn c4 (mm_ifn c5 rfl))))⟩⟩
            exact Nat.lt_succ_self _
          · skip
            replace hok := mm_okp hok c5
            refine a_go (by decide) (v_aload_n d_MO_tick_58 rfl ?_)
            refine a_go (by decide) (v_getR d_MO_tick_59 rfl rfl rfl ?_)
            refine a_go (by decide) (v_iconst d_MO_tick_62 ki_5 ?_)
            refine a_go (by decide) (v_dup2 d_MO_tick_63 rfl rfl ?_)
            have o1 := And.left hok
            replace hok := And.right hok
            refine a_go (by decide) (v_iaload d_MO_tick_64 (by decide) rfl o1 ?_)
            refine a_go (by decide) (v_iconst d_MO_tick_65 ki_1 ?_)
            refine a_go (by decide) (v_iadd d_MO_tick_66 ?_)
            have o2 := And.left hok
            replace hok := And.right hok
            refine a_go (by decide) (v_iastore d_MO_tick_67 rfl o2 ?_)
            refine a_go (by decide) (v_iinc d_MO_tick_68 (by decide) rfl ki_1 ?_)
            refine a_go (by decide) (v_aload_n d_MO_tick_71 rfl ?_)
            refine a_go (by decide) (v_callV d_MO_tick_72 rfl (mm_spl 1 rfl) rfl (Nat.le_of_ble_eq_true rfl) rfl ?_)
            have o3 := And.left hok
            replace hok := And.right hok
            refine (i_m_booted o3 ?_)
            refine a_go (by decide) (v_if_ne d_MO_tick_75 (t := 81) (by decide) (fun c6 => ?_) (fun c6 => ?_))
            · skip
              replace hok := mm_okn hok c6
              refine a_go (by decide) (v_iinc d_MO_tick_81 (by decide) rfl ki_1 ?_)
              refine a_go (by decide) (v_goto d_MO_tick_84 (t := 29) (by decide) ?_)
              refine a_cut (by decide) ⟨rfl, _, [(0, _), (1, _), (2, _), (3, _)], ?_, (mm_all_c rfl (mm_all_c rfl (mm_all_c rfl (mm_all_c rfl (mm_all_n))))), ⟨rfl, _, _, _, _, rfl, rfl, hok, (mm_mvVS hk (mm_ifn c3 (mm_ifn c4 (mm_ifp c5 (mm_ifn c6 rfl)))))⟩⟩
              exact Nat.lt_succ_self _
            · skip
              replace hok := mm_okp hok c6
              refine a_go (by decide) (v_bipush d_MO_tick_78 kb_m106 ?_)
              refine a_go (by decide) (v_ireturn d_MO_tick_80 rfl rfl ?_)
              exact mm_fiVS hk (mm_ifn c3 (mm_ifn c4 (mm_ifp c5 (mm_ifp c6 rfl))))
-- TwoSlotsModel.revoke(I)I
def e_m_revoke (v0 : Int32) (x : mm_S) : Int32 × mm_S :=
  if (x.1 100) = (0 : Int32) then
    if (e_m_in (Int32.toInt64 v0) (0 : Int64) (3 : Int64) x) = (0 : Int32) then
      ((-101 : Int32), x)
    else
      let y1 := e_m_newest x
      if (x.1 103) = (-1 : Int32) then
        ((-103 : Int32), x)
      else
        if (e_m_isTrial x) = (0 : Int32) then
          if (x.1 106) = (-1 : Int32) then
            if y1 = (-1 : Int32) then
              ((-103 : Int32), x)
            else
              if (x.2.2 10 (Int32.toNatClampNeg (y1 + (5 : Int32)))) = (255 : Int32) then
                if (x.2.2 10 (Int32.toNatClampNeg ((e_m_headOf (x.1 103) x) + (12 : Int32)))) = v0 then
                  ((-103 : Int32), x)
                else
                  if (((x.2.2 10 (Int32.toNatClampNeg (y1 + (7 : Int32)))) >>> (v0 &&& 31)) &&& (1 : Int32)) = (1 : Int32) then
                    ((0 : Int32), x)
                  else
                    let q2 := e_m_appended (-2 : Int32) (-2 : Int32) (-2 : Int32) ((x.2.2 10 (Int32.toNatClampNeg (y1 + (7 : Int32)))) ||| ((1 : Int32) <<< (v0 &&& 31))) (-2 : Int64) x
                    if q2.1 = (0 : Int32) then
                      ((-106 : Int32), q2.2)
                    else
                      ((1 : Int32), q2.2)
              else
                ((-103 : Int32), x)
          else
            ((-103 : Int32), x)
        else
          ((-103 : Int32), x)
  else
    ((-100 : Int32), x)
def ok_m_revoke (v0 : Int32) (x : mm_S) : Prop := if (x.1 100) = (0 : Int32) then (if (e_m_in (Int32.toInt64 v0) (0 : Int64) (3 : Int64) x) = (0 : Int32) then (True) else ((ok_m_newest  x) ∧ (let y1 := e_m_newest x; if (x.1 103) = (-1 : Int32) then (True) else (if (e_m_isTrial x) = (0 : Int32) then (if (x.1 106) = (-1 : Int32) then (if y1 = (-1 : Int32) then (True) else ((vp_in (y1 + (5 : Int32)) 4096) ∧ (if (x.2.2 10 (Int32.toNatClampNeg (y1 + (5 : Int32)))) = (255 : Int32) then ((vp_in ((e_m_headOf (x.1 103) x) + (12 : Int32)) 4096) ∧ (if (x.2.2 10 (Int32.toNatClampNeg ((e_m_headOf (x.1 103) x) + (12 : Int32)))) = v0 then (True) else ((vp_in (y1 + (7 : Int32)) 4096) ∧ (if (((x.2.2 10 (Int32.toNatClampNeg (y1 + (7 : Int32)))) >>> (v0 &&& 31)) &&& (1 : Int32)) = (1 : Int32) then (True) else ((vp_in (y1 + (7 : Int32)) 4096) ∧ ((ok_m_appended (-2 : Int32) (-2 : Int32) (-2 : Int32) ((x.2.2 10 (Int32.toNatClampNeg (y1 + (7 : Int32)))) ||| ((1 : Int32) <<< (v0 &&& 31))) (-2 : Int64) x) ∧ (let q2 := e_m_appended (-2 : Int32) (-2 : Int32) (-2 : Int32) ((x.2.2 10 (Int32.toNatClampNeg (y1 + (7 : Int32)))) ||| ((1 : Int32) <<< (v0 &&& 31))) (-2 : Int64) x; if q2.1 = (0 : Int32) then (True) else (True)))))))) else (True)))) else (True)) else (True))))) else (True)
def S_m_revoke : mm_P := fun as x K => ∃ (v0 : Int32), as = [.ref 11, .int v0] ∧ (ok_m_revoke v0 x) ∧ K (some (.int (e_m_revoke v0 x).1)) (e_m_revoke v0 x).2
theorem i_m_revoke {v0 : Int32} {x : mm_S} {K : mm_K} (hpre : (ok_m_revoke v0 x)) (hk : K (some (.int (e_m_revoke v0 x).1)) (e_m_revoke v0 x).2) : S_m_revoke [.ref 11, .int v0] x K := ⟨_, rfl, hpre, hk⟩
def G_m_revoke : mm_G := (FT_MO, CI_MO, CJ_MO, mm_tb [(76, 3, S_m_in), (84, 1, S_m_headOf)], mm_tb [(80, 1, 5, S_m_newest), (149, 1, 5, S_m_isTrial), (165, 6, 5, S_m_appended)], none)
def rm_m_revoke : Room := { frames := 3, cells := 0, slots := 0, locals := 83 }
set_option maxHeartbeats 40000000 in
set_option maxRecDepth 10000 in
theorem c_m_revoke (l : Launch) : mm_Con l NW CL TB LL y_MO_revoke b_MO_revoke 3 (some .int) rm_m_revoke S_m_revoke := by
  refine mm_con G_m_revoke [] (fun _ _ _ _ _ _ _ => False) (by decide +kernel) tb_good LL_u nw_nest ?_ rfl ft_MO ci_MO cj_MO ?_ ?_ ?_ ?_
  · rintro as x K ⟨v0, rfl, -⟩
    exact Nat.le_of_ble_eq_true rfl
  · exact mm_tb_e (List.forall_mem_cons.mpr ⟨mm_cst_i (c_m_in l) (mm_cb_i rfl rfl (by decide) (by decide) tc_MO_in ti_MO ⟨by decide, by decide, by decide +kernel⟩ (Or.inl tl_MO_76)) ts_MO_in, List.forall_mem_cons.mpr ⟨mm_cst_i (c_m_headOf l) (mm_cb_i rfl rfl (by decide) (by decide) tc_MO_headOf ti_MO ⟨by decide, by decide, by decide +kernel⟩ (Or.inl tl_MO_84)) ts_MO_headOf, fun _ h => absurd h List.not_mem_nil⟩⟩)
  · exact mm_tb_e (List.forall_mem_cons.mpr ⟨mm_cvt_i (c_m_newest l) (mm_cb_i rfl rfl (by decide) (by decide) tc_MO_newest ti_MO ⟨by decide, by decide, by decide +kernel⟩ (Or.inl tl_MO_80)) rfl tv_MO_newest tx_MO_newest, List.forall_mem_cons.mpr ⟨mm_cvt_i (c_m_isTrial l) (mm_cb_i rfl rfl (by decide) (by decide) tc_MO_isTrial ti_MO ⟨by decide, by decide, by decide +kernel⟩ (Or.inl tl_MO_149)) rfl tv_MO_isTrial tx_MO_isTrial, List.forall_mem_cons.mpr ⟨mm_cvt_i (c_m_appended l) (mm_cb_i rfl rfl (by decide) (by decide) tc_MO_appended ti_MO ⟨by decide, by decide, by decide +kernel⟩ (Or.inl tl_MO_165)) rfl tv_MO_appended tx_MO_appended, fun _ h => absurd h List.not_mem_nil⟩⟩⟩)
  · rintro as x K ⟨v0, rfl, hok, hk⟩
    refine ⟨400, ?_⟩
    refine v_aload_n d_MO_revoke_0 rfl ?_
    refine a_go (by decide) (v_getI d_MO_revoke_1 rfl rfl rfl ?_)
    refine a_go (by decide) (v_if_eq d_MO_revoke_4 (t := 10) (by decide) (fun c1 => ?_) (fun c1 => ?_))
    · skip
      replace hok := mm_okp hok c1
      refine a_go (by decide) (v_iload_n d_MO_revoke_10 rfl ?_)
      refine a_go (by decide) (v_i2l d_MO_revoke_11 ?_)
      refine a_go (by decide) (v_lconst d_MO_revoke_12 kl_0 ?_)
      refine a_go (by decide) (v_ldc2 d_MO_revoke_13 rfl ?_)
      refine a_go (by decide) (v_callS d_MO_revoke_16 rfl (mm_spl 3 rfl) rfl (Nat.le_of_ble_eq_true rfl) ?_)
      refine (i_m_in ?_)
      refine a_go (by decide) (v_if_ne d_MO_revoke_19 (t := 25) (by decide) (fun c2 => ?_) (fun c2 => ?_))
      · skip
        replace hok := mm_okn hok c2
        refine a_go (by decide) (v_aload_n d_MO_revoke_25 rfl ?_)
        refine a_go (by decide) (v_callV d_MO_revoke_26 rfl (mm_spl 1 rfl) rfl (Nat.le_of_ble_eq_true rfl) rfl ?_)
        have o1 := And.left hok
        replace hok := And.right hok
        refine (i_m_newest o1 ?_)
        refine a_go (by decide) (v_istore_n d_MO_revoke_29 (by decide) ?_)
        refine a_go (by decide) (v_aload_n d_MO_revoke_30 rfl ?_)
        refine a_go (by decide) (v_getI d_MO_revoke_31 rfl rfl rfl ?_)
        refine a_go (by decide) (v_iconst d_MO_revoke_34 ki_m1 ?_)
        refine a_go (by decide) (v_icmp_eq d_MO_revoke_35 (t := 91) (by decide) (fun c3 => ?_) (fun c3 => ?_))
        · skip
          replace hok := mm_okp hok c3
          refine a_go (by decide) (v_bipush d_MO_revoke_91 kb_m103 ?_)
          refine a_go (by decide) (v_ireturn d_MO_revoke_93 rfl rfl ?_)
          exact mm_fiVS hk (mm_ifp c1 (mm_ifn c2 (mm_ifp c3 rfl)))
        · skip
          replace hok := mm_okn hok c3
          refine a_go (by decide) (v_aload_n d_MO_revoke_38 rfl ?_)
          refine a_go (by decide) (v_callV d_MO_revoke_39 rfl (mm_spl 1 rfl) rfl (Nat.le_of_ble_eq_true rfl) rfl ?_)
          refine (i_m_isTrial ?_)
          refine a_go (by decide) (v_if_ne d_MO_revoke_42 (t := 91) (by decide) (fun c4 => ?_) (fun c4 => ?_))
          · skip
            replace hok := mm_okn hok c4
            refine a_go (by decide) (v_bipush d_MO_revoke_91 kb_m103 ?_)
            refine a_go (by decide) (v_ireturn d_MO_revoke_93 rfl rfl ?_)
            exact mm_fiVS hk (mm_ifp c1 (mm_ifn c2 (mm_ifn c3 (mm_ifn c4 rfl))))
          · skip
            replace hok := mm_okp hok c4
            refine a_go (by decide) (v_aload_n d_MO_revoke_45 rfl ?_)
            refine a_go (by decide) (v_getI d_MO_revoke_46 rfl rfl rfl ?_)
            refine a_go (by decide) (v_iconst d_MO_revoke_49 ki_m1 ?_)
            refine a_go (by decide) (v_icmp_ne d_MO_revoke_50 (t := 91) (by decide) (fun c5 => ?_) (fun c5 => ?_))
            · skip
              replace hok := mm_okn hok c5
              refine a_go (by decide) (v_bipush d_MO_revoke_91 kb_m103 ?_)
              refine a_go (by decide) (v_ireturn d_MO_revoke_93 rfl rfl ?_)
              exact mm_fiVS hk (mm_ifp c1 (mm_ifn c2 (mm_ifn c3 (mm_ifp c4 (mm_ifn c5 rfl)))))
            · skip
              replace hok := mm_okp hok c5
              refine a_go (by decide) (v_iload_n d_MO_revoke_53 rfl ?_)
              refine a_go (by decide) (v_iconst d_MO_revoke_54 ki_m1 ?_)
              refine a_go (by decide) (v_icmp_eq d_MO_revoke_55 (t := 91) (by decide) (fun c6 => ?_) (fun c6 => ?_))
              · skip
                replace hok := mm_okp hok c6
                refine a_go (by decide) (v_bipush d_MO_revoke_91 kb_m103 ?_)
                refine a_go (by decide) (v_ireturn d_MO_revoke_93 rfl rfl ?_)
                exact mm_fiVS hk (mm_ifp c1 (mm_ifn c2 (mm_ifn c3 (mm_ifp c4 (mm_ifp c5 (mm_ifp c6 rfl))))))
              · skip
                replace hok := mm_okn hok c6
                refine a_go (by decide) (v_aload_n d_MO_revoke_58 rfl ?_)
                refine a_go (by decide) (v_getR d_MO_revoke_59 rfl rfl rfl ?_)
                refine a_go (by decide) (v_iload_n d_MO_revoke_62 rfl ?_)
                refine a_go (by decide) (v_iconst d_MO_revoke_63 ki_5 ?_)
                refine a_go (by decide) (v_iadd d_MO_revoke_64 ?_)
                have o2 := And.left hok
                replace hok := And.right hok
                refine a_go (by decide) (v_iaload d_MO_revoke_65 (by decide) rfl o2 ?_)
                refine a_go (by decide) (v_sipush d_MO_revoke_66 ks_255 ?_)
                refine a_go (by decide) (v_icmp_ne d_MO_revoke_69 (t := 91) (by decide) (fun c7 => ?_) (fun c7 => ?_))
                · skip
                  replace hok := mm_okn hok c7
                  refine a_go (by decide) (v_bipush d_MO_revoke_91 kb_m103 ?_)
                  refine a_go (by decide) (v_ireturn d_MO_revoke_93 rfl rfl ?_)
                  exact mm_fiVS hk (mm_ifp c1 (mm_ifn c2 (mm_ifn c3 (mm_ifp c4 (mm_ifp c5 (mm_ifn c6 (mm_ifn c7 rfl)))))))
                · skip
                  replace hok := mm_okp hok c7
                  refine a_go (by decide) (v_aload_n d_MO_revoke_72 rfl ?_)
                  refine a_go (by decide) (v_getR d_MO_revoke_73 rfl rfl rfl ?_)
                  refine a_go (by decide) (v_aload_n d_MO_revoke_76 rfl ?_)
                  refine a_go (by decide) (v_getI d_MO_revoke_77 rfl rfl rfl ?_)
                  refine a_go (by decide) (v_callS d_MO_revoke_80 rfl (mm_spl 1 rfl) rfl (Nat.le_of_ble_eq_true rfl) ?_)
                  refine (i_m_headOf ?_)
                  refine a_go (by decide) (v_bipush d_MO_revoke_83 kb_12 ?_)
                  refine a_go (by decide) (v_iadd d_MO_revoke_85 ?_)
                  have o3 := And.left hok
                  replace hok := And.right hok
                  refine a_go (by decide) (v_iaload d_MO_revoke_86 (by decide) rfl o3 ?_)
                  refine a_go (by decide) (v_iload_n d_MO_revoke_87 rfl ?_)
                  refine a_go (by decide) (v_icmp_ne d_MO_revoke_88 (t := 94) (by decide) (fun c8 => ?_) (fun c8 => ?_))
                  · skip
                    replace hok := mm_okn hok c8
                    refine a_go (by decide) (v_aload_n d_MO_revoke_94 rfl ?_)
                    refine a_go (by decide) (v_getR d_MO_revoke_95 rfl rfl rfl ?_)
                    refine a_go (by decide) (v_iload_n d_MO_revoke_98 rfl ?_)
                    refine a_go (by decide) (v_bipush d_MO_revoke_99 kb_7 ?_)
                    refine a_go (by decide) (v_iadd d_MO_revoke_101 ?_)
                    have o4 := And.left hok
                    replace hok := And.right hok
                    refine a_go (by decide) (v_iaload d_MO_revoke_102 (by decide) rfl o4 ?_)
                    refine a_go (by decide) (v_iload_n d_MO_revoke_103 rfl ?_)
                    refine a_go (by decide) (v_ishr d_MO_revoke_104 ?_)
                    refine a_go (by decide) (v_iconst d_MO_revoke_105 ki_1 ?_)
                    refine a_go (by decide) (v_iand d_MO_revoke_106 ?_)
                    refine a_go (by decide) (v_iconst d_MO_revoke_107 ki_1 ?_)
                    refine a_go (by decide) (v_icmp_ne d_MO_revoke_108 (t := 113) (by decide) (fun c9 => ?_) (fun c9 => ?_))
                    · skip
                      replace hok := mm_okn hok c9
                      refine a_go (by decide) (v_aload_n d_MO_revoke_113 rfl ?_)
                      refine a_go (by decide) (v_bipush d_MO_revoke_114 kb_m2 ?_)
                      refine a_go (by decide) (v_bipush d_MO_revoke_116 kb_m2 ?_)
                      refine a_go (by decide) (v_bipush d_MO_revoke_118 kb_m2 ?_)
                      refine a_go (by decide) (v_aload_n d_MO_revoke_120 rfl ?_)
                      refine a_go (by decide) (v_getR d_MO_revoke_121 rfl rfl rfl ?_)
                      refine a_go (by decide) (v_iload_n d_MO_revoke_124 rfl ?_)
                      refine a_go (by decide) (v_bipush d_MO_revoke_125 kb_7 ?_)
                      refine a_go (by decide) (v_iadd d_MO_revoke_127 ?_)
                      have o5 := And.left hok
                      replace hok := And.right hok
                      refine a_go (by decide) (v_iaload d_MO_revoke_128 (by decide) rfl o5 ?_)
                      refine a_go (by decide) (v_iconst d_MO_revoke_129 ki_1 ?_)
                      refine a_go (by decide) (v_iload_n d_MO_revoke_130 rfl ?_)
                      refine a_go (by decide) (v_ishl d_MO_revoke_131 ?_)
                      refine a_go (by decide) (v_ior d_MO_revoke_132 ?_)
                      refine a_go (by decide) (v_ldc2 d_MO_revoke_133 rfl ?_)
                      refine a_go (by decide) (v_callV d_MO_revoke_136 rfl (mm_spl 6 rfl) rfl (Nat.le_of_ble_eq_true rfl) rfl ?_)
                      have o6 := And.left hok
                      replace hok := And.right hok
                      refine (i_m_appended o6 ?_)
                      refine a_go (by decide) (v_if_eq d_MO_revoke_139 (t := 146) (by decide) (fun c10 => ?_) (fun c10 => ?_))
                      · skip
                        replace hok := mm_okp hok c10
                        refine a_go (by decide) (v_bipush d_MO_revoke_146 kb_m106 ?_)
                        refine a_go (by decide) (v_ireturn d_MO_revoke_148 rfl rfl ?_)
                        exact mm_fiVS hk (mm_ifp c1 (mm_ifn c2 (mm_ifn c3 (mm_ifp c4 (mm_ifp c5 (mm_ifn c6 (mm_ifp c7 (mm_ifn c8 (mm_ifn c9 (mm_ifp c10 rfl))))))))))
                      · skip
                        replace hok := mm_okn hok c10
                        refine a_go (by decide) (v_iconst d_MO_revoke_142 ki_1 ?_)
                        refine a_go (by decide) (v_goto d_MO_revoke_143 (t := 148) (by decide) ?_)
                        refine a_go (by decide) (v_ireturn d_MO_revoke_148 rfl rfl ?_)
                        exact mm_fiVS hk (mm_ifp c1 (mm_ifn c2 (mm_ifn c3 (mm_ifp c4 (mm_ifp c5 (mm_ifn c6 (mm_ifp c7 (mm_ifn c8 (mm_ifn c9 (mm_ifn c10 rfl))))))))))
                    · skip
                      replace hok := mm_okp hok c9
                      refine a_go (by decide) (v_iconst d_MO_revoke_111 ki_0 ?_)
                      refine a_go (by decide) (v_ireturn d_MO_revoke_112 rfl rfl ?_)
                      exact mm_fiVS hk (mm_ifp c1 (mm_ifn c2 (mm_ifn c3 (mm_ifp c4 (mm_ifp c5 (mm_ifn c6 (mm_ifp c7 (mm_ifn c8 (mm_ifp c9 rfl)))))))))
                  · skip
                    replace hok := mm_okp hok c8
                    refine a_go (by decide) (v_bipush d_MO_revoke_91 kb_m103 ?_)
                    refine a_go (by decide) (v_ireturn d_MO_revoke_93 rfl rfl ?_)
                    exact mm_fiVS hk (mm_ifp c1 (mm_ifn c2 (mm_ifn c3 (mm_ifp c4 (mm_ifp c5 (mm_ifn c6 (mm_ifp c7 (mm_ifp c8 rfl))))))))
      · skip
        replace hok := mm_okp hok c2
        refine a_go (by decide) (v_bipush d_MO_revoke_22 kb_m101 ?_)
        refine a_go (by decide) (v_ireturn d_MO_revoke_24 rfl rfl ?_)
        exact mm_fiVS hk (mm_ifp c1 (mm_ifp c2 rfl))
    · skip
      replace hok := mm_okn hok c1
      refine a_go (by decide) (v_bipush d_MO_revoke_7 kb_m100 ?_)
      refine a_go (by decide) (v_ireturn d_MO_revoke_9 rfl rfl ?_)
      exact mm_fiVS hk (mm_ifn c1 rfl)
  · intro as x K _ k pc lv x' h
    cases h
