-- TwoSlotsModel.isTrial()Z
def e_m_isTrial (x : mm_S) : Int32 :=
  if (x.1 103) = (-1 : Int32) then
    (0 : Int32)
  else
    if (x.1 104) ≤ (0 : Int32) then
      (0 : Int32)
    else
      (1 : Int32)
def S_m_isTrial : mm_P := fun as x K => as = [.ref 11] ∧ K (some (.int (e_m_isTrial x))) x
theorem i_m_isTrial {x : mm_S} {K : mm_K} (hk : K (some (.int (e_m_isTrial x))) x) : S_m_isTrial [.ref 11] x K := ⟨rfl, hk⟩
def G_m_isTrial : mm_G := (FT_MO, CI_MO, CJ_MO, mm_tb [], mm_tb [], none)
def rm_m_isTrial : Room := { frames := 0, cells := 0, slots := 0, locals := 0 }
set_option maxHeartbeats 40000000 in
set_option maxRecDepth 10000 in
theorem c_m_isTrial (l : Launch) : mm_Con l NW CL TB LL y_MO_isTrial b_MO_isTrial 1 (some .boolean) rm_m_isTrial S_m_isTrial := by
  refine mm_con G_m_isTrial [] (fun _ _ _ _ _ _ _ => False) (by decide +kernel) tb_good LL_u nw_nest ?_ rfl ft_MO ci_MO cj_MO ?_ ?_ ?_ ?_
  · rintro as x K ⟨rfl, -⟩
    exact Nat.le_of_ble_eq_true rfl
  · exact mm_tb_e (fun _ h => absurd h List.not_mem_nil)
  · exact mm_tb_e (fun _ h => absurd h List.not_mem_nil)
  · rintro as x K ⟨rfl, hk⟩
    refine ⟨400, ?_⟩
    refine v_aload_n d_MO_isTrial_0 rfl ?_
    refine a_go (by decide) (v_getI d_MO_isTrial_1 rfl rfl rfl ?_)
    refine a_go (by decide) (v_iconst d_MO_isTrial_4 ki_m1 ?_)
    refine a_go (by decide) (v_icmp_eq d_MO_isTrial_5 (t := 19) (by decide) (fun c1 => ?_) (fun c1 => ?_))
    · skip
      refine a_go (by decide) (v_iconst d_MO_isTrial_19 ki_0 ?_)
      refine a_go (by decide) (v_zreturn d_MO_isTrial_20 rfl (by decide) ?_)
      exact mm_fiV hk (mm_ifp c1 rfl)
    · skip
      refine a_go (by decide) (v_aload_n d_MO_isTrial_8 rfl ?_)
      refine a_go (by decide) (v_getI d_MO_isTrial_9 rfl rfl rfl ?_)
      refine a_go (by decide) (v_if_le d_MO_isTrial_12 (t := 19) (by decide) (fun c2 => ?_) (fun c2 => ?_))
      · skip
        refine a_go (by decide) (v_iconst d_MO_isTrial_19 ki_0 ?_)
        refine a_go (by decide) (v_zreturn d_MO_isTrial_20 rfl (by decide) ?_)
        exact mm_fiV hk (mm_ifn c1 (mm_ifp c2 rfl))
      · skip
        refine a_go (by decide) (v_iconst d_MO_isTrial_15 ki_1 ?_)
        refine a_go (by decide) (v_goto d_MO_isTrial_16 (t := 20) (by decide) ?_)
        refine a_go (by decide) (v_zreturn d_MO_isTrial_20 rfl (by decide) ?_)
        exact mm_fiV hk (mm_ifn c1 (mm_ifn c2 rfl))
  · intro as x K _ k pc lv x' h
    cases h
-- TwoSlotsModel.offer()I
def l_m_offer_120 (k : Nat) (u2 : Int32) (u3 : Int32) (x : mm_S) : Int32 × mm_S := match k with
  | 0 => (0, x)
  | k + 1 =>
    if (64 : Int32) ≤ u3 then
      let x5 := mm_setI x 106 u2
      let x6 := mm_setI x5 107 (0 : Int32)
      (u2, x6)
    else
      let x7 := mm_setA x 12 (upd (x.2.2 12) (Int32.toNatClampNeg u3) (x.2.2 11 (Int32.toNatClampNeg u3)))
      l_m_offer_120 (k) u2 (u3 + (1 : Int32)) x7
def okl_m_offer_120 (k : Nat) (u2 : Int32) (u3 : Int32) (x : mm_S) : Prop := match k with
  | 0 => False
  | k + 1 => if (64 : Int32) ≤ u3 then (let x5 := mm_setI x 106 u2; let x6 := mm_setI x5 107 (0 : Int32); True) else ((vp_in u3 64) ∧ ((vp_in u3 64) ∧ (let x7 := mm_setA x 12 (upd (x.2.2 12) (Int32.toNatClampNeg u3) (x.2.2 11 (Int32.toNatClampNeg u3))); okl_m_offer_120 (k) u2 (u3 + (1 : Int32)) x7)))
def e_m_offer (x : mm_S) : Int32 × mm_S :=
  if (x.1 100) = (0 : Int32) then
    if (x.1 103) = (-1 : Int32) then
      ((-103 : Int32), x)
    else
      if (e_m_isTrial x) = (0 : Int32) then
        if (e_m_newest x) = (-1 : Int32) then
          ((-103 : Int32), x)
        else
          if (x.1 105) = (64 : Int32) then
            let x2 := mm_setI x 105 (0 : Int32)
            if (e_m_isRight 64 11 (0 : Int32) x2) = (0 : Int32) then
              ((-105 : Int32), x2)
            else
              if (0 : Int32) ≤ (lg_cmp (e_m_read 64 11 (4 : Int32) (4 : Int32) x2) (e_m_counter x2)) then
                let y3 := e_m_otherOf (e_m_activeSlot x2) x2
                let q4 := e_m_erased ((e_m_headOf y3 x2) / (64 : Int32)) x2
                if q4.1 = (0 : Int32) then
                  ((-106 : Int32), q4.2)
                else
                  l_m_offer_120 (mm_fu (0 : Int32) 64) y3 (0 : Int32) q4.2
              else
                ((-105 : Int32), x2)
          else
            let x1 := mm_setI x 105 (0 : Int32)
            ((-105 : Int32), x1)
      else
        ((-103 : Int32), x)
  else
    ((-100 : Int32), x)
def ok_m_offer (x : mm_S) : Prop := if (x.1 100) = (0 : Int32) then (if (x.1 103) = (-1 : Int32) then (True) else (if (e_m_isTrial x) = (0 : Int32) then ((ok_m_newest  x) ∧ (if (e_m_newest x) = (-1 : Int32) then (True) else (if (x.1 105) = (64 : Int32) then (let x2 := mm_setI x 105 (0 : Int32); (ok_m_isRight 64 11 (0 : Int32) x2) ∧ (if (e_m_isRight 64 11 (0 : Int32) x2) = (0 : Int32) then (True) else ((ok_m_read 64 11 (4 : Int32) (4 : Int32) x2) ∧ ((ok_m_counter  x2) ∧ (if (0 : Int32) ≤ (lg_cmp (e_m_read 64 11 (4 : Int32) (4 : Int32) x2) (e_m_counter x2)) then ((ok_m_activeSlot  x2) ∧ (let y3 := e_m_otherOf (e_m_activeSlot x2) x2; (ok_m_erased ((e_m_headOf y3 x2) / (64 : Int32)) x2) ∧ (let q4 := e_m_erased ((e_m_headOf y3 x2) / (64 : Int32)) x2; if q4.1 = (0 : Int32) then (True) else (okl_m_offer_120 (mm_fu (0 : Int32) 64) y3 (0 : Int32) q4.2)))) else (True)))))) else (let x1 := mm_setI x 105 (0 : Int32); True)))) else (True))) else (True)
def S_m_offer : mm_P := fun as x K => as = [.ref 11] ∧ (ok_m_offer x) ∧ K (some (.int (e_m_offer x).1)) (e_m_offer x).2
theorem i_m_offer {x : mm_S} {K : mm_K} (hpre : (ok_m_offer x)) (hk : K (some (.int (e_m_offer x).1)) (e_m_offer x).2) : S_m_offer [.ref 11] x K := ⟨rfl, hpre, hk⟩
def G_m_offer : mm_G := (FT_MO, CI_MO, CJ_MO, mm_tb [(156, 1, S_m_otherOf), (84, 1, S_m_headOf)], mm_tb [(149, 1, 5, S_m_isTrial), (80, 1, 5, S_m_newest), (88, 3, 5, S_m_isRight), (68, 4, 5, S_m_read), (92, 1, 5, S_m_counter), (153, 1, 5, S_m_activeSlot), (122, 2, 5, S_m_erased)], none)
def rm_m_offer : Room := { frames := 3, cells := 0, slots := 0, locals := 76 }
abbrev Inv_m_offer : mm_K → List Value → mm_S → Nat → Nat → mm_V → mm_S → Prop := fun K _ _ k pc lv x => (pc = 120 ∧ ∃ (f : Nat) (u2 : Int32) (u3 : Int32), k = f + 0 ∧ lv = [(0, .ref 11), (2, .int u2), (3, .int u3)] ∧ okl_m_offer_120 f u2 u3 x ∧ K (some (.int (l_m_offer_120 f u2 u3 x).1)) (l_m_offer_120 f u2 u3 x).2)
set_option maxHeartbeats 40000000 in
set_option maxRecDepth 10000 in
theorem c_m_offer (l : Launch) : mm_Con l NW CL TB LL y_MO_offer b_MO_offer 4 (some .int) rm_m_offer S_m_offer := by
  refine mm_con G_m_offer [120] Inv_m_offer (by decide +kernel) tb_good LL_u nw_nest ?_ rfl ft_MO ci_MO cj_MO ?_ ?_ ?_ ?_
  · rintro as x K ⟨rfl, -⟩
    exact Nat.le_of_ble_eq_true rfl
  · exact mm_tb_e (List.forall_mem_cons.mpr ⟨mm_cst_i (c_m_otherOf l) (mm_cb_i rfl rfl (by decide) (by decide) tc_MO_otherOf ti_MO ⟨by decide, by decide, by decide +kernel⟩ (Or.inl tl_MO_156)) ts_MO_otherOf, List.forall_mem_cons.mpr ⟨mm_cst_i (c_m_headOf l) (mm_cb_i rfl rfl (by decide) (by decide) tc_MO_headOf ti_MO ⟨by decide, by decide, by decide +kernel⟩ (Or.inl tl_MO_84)) ts_MO_headOf, fun _ h => absurd h List.not_mem_nil⟩⟩)
  · exact mm_tb_e (List.forall_mem_cons.mpr ⟨mm_cvt_i (c_m_isTrial l) (mm_cb_i rfl rfl (by decide) (by decide) tc_MO_isTrial ti_MO ⟨by decide, by decide, by decide +kernel⟩ (Or.inl tl_MO_149)) rfl tv_MO_isTrial tx_MO_isTrial, List.forall_mem_cons.mpr ⟨mm_cvt_i (c_m_newest l) (mm_cb_i rfl rfl (by decide) (by decide) tc_MO_newest ti_MO ⟨by decide, by decide, by decide +kernel⟩ (Or.inl tl_MO_80)) rfl tv_MO_newest tx_MO_newest, List.forall_mem_cons.mpr ⟨mm_cvt_i (c_m_isRight l) (mm_cb_i rfl rfl (by decide) (by decide) tc_MO_isRight ti_MO ⟨by decide, by decide, by decide +kernel⟩ (Or.inl tl_MO_88)) rfl tv_MO_isRight tx_MO_isRight, List.forall_mem_cons.mpr ⟨mm_cvt_i (c_m_read l) (mm_cb_i rfl rfl (by decide) (by decide) tc_MO_read ti_MO ⟨by decide, by decide, by decide +kernel⟩ (Or.inl tl_MO_68)) rfl tv_MO_read tx_MO_read, List.forall_mem_cons.mpr ⟨mm_cvt_i (c_m_counter l) (mm_cb_i rfl rfl (by decide) (by decide) tc_MO_counter ti_MO ⟨by decide, by decide, by decide +kernel⟩ (Or.inl tl_MO_92)) rfl tv_MO_counter tx_MO_counter, List.forall_mem_cons.mpr ⟨mm_cvt_i (c_m_activeSlot l) (mm_cb_i rfl rfl (by decide) (by decide) tc_MO_activeSlot ti_MO ⟨by decide, by decide, by decide +kernel⟩ (Or.inl tl_MO_153)) rfl tv_MO_activeSlot tx_MO_activeSlot, List.forall_mem_cons.mpr ⟨mm_cvt_i (c_m_erased l) (mm_cb_i rfl rfl (by decide) (by decide) tc_MO_erased ti_MO ⟨by decide, by decide, by decide +kernel⟩ (Or.inl tl_MO_122)) rfl tv_MO_erased tx_MO_erased, fun _ h => absurd h List.not_mem_nil⟩⟩⟩⟩⟩⟩⟩)
  · rintro as x K ⟨rfl, hok, hk⟩
    refine ⟨400, ?_⟩
    refine v_aload_n d_MO_offer_0 rfl ?_
    refine a_go (by decide) (v_getI d_MO_offer_1 rfl rfl rfl ?_)
    refine a_go (by decide) (v_if_eq d_MO_offer_4 (t := 10) (by decide) (fun c1 => ?_) (fun c1 => ?_))
    · skip
      replace hok := mm_okp hok c1
      refine a_go (by decide) (v_aload_n d_MO_offer_10 rfl ?_)
      refine a_go (by decide) (v_getI d_MO_offer_11 rfl rfl rfl ?_)
      refine a_go (by decide) (v_iconst d_MO_offer_14 ki_m1 ?_)
      refine a_go (by decide) (v_icmp_eq d_MO_offer_15 (t := 33) (by decide) (fun c2 => ?_) (fun c2 => ?_))
      · skip
        replace hok := mm_okp hok c2
        refine a_go (by decide) (v_bipush d_MO_offer_33 kb_m103 ?_)
        refine a_go (by decide) (v_ireturn d_MO_offer_35 rfl rfl ?_)
        exact mm_fiVS hk (mm_ifp c1 (mm_ifp c2 rfl))
      · skip
        replace hok := mm_okn hok c2
        refine a_go (by decide) (v_aload_n d_MO_offer_18 rfl ?_)
        refine a_go (by decide) (v_callV d_MO_offer_19 rfl (mm_spl 1 rfl) rfl (Nat.le_of_ble_eq_true rfl) rfl ?_)
        refine (i_m_isTrial ?_)
        refine a_go (by decide) (v_if_ne d_MO_offer_22 (t := 33) (by decide) (fun c3 => ?_) (fun c3 => ?_))
        · skip
          replace hok := mm_okn hok c3
          refine a_go (by decide) (v_bipush d_MO_offer_33 kb_m103 ?_)
          refine a_go (by decide) (v_ireturn d_MO_offer_35 rfl rfl ?_)
          exact mm_fiVS hk (mm_ifp c1 (mm_ifn c2 (mm_ifn c3 rfl)))
        · skip
          replace hok := mm_okp hok c3
          refine a_go (by decide) (v_aload_n d_MO_offer_25 rfl ?_)
          refine a_go (by decide) (v_callV d_MO_offer_26 rfl (mm_spl 1 rfl) rfl (Nat.le_of_ble_eq_true rfl) rfl ?_)
          have o1 := And.left hok
          replace hok := And.right hok
          refine (i_m_newest o1 ?_)
          refine a_go (by decide) (v_iconst d_MO_offer_29 ki_m1 ?_)
          refine a_go (by decide) (v_icmp_ne d_MO_offer_30 (t := 36) (by decide) (fun c4 => ?_) (fun c4 => ?_))
          · skip
            replace hok := mm_okn hok c4
            refine a_go (by decide) (v_aload_n d_MO_offer_36 rfl ?_)
            refine a_go (by decide) (v_getI d_MO_offer_37 rfl rfl rfl ?_)
            refine a_go (by decide) (v_bipush d_MO_offer_40 kb_64 ?_)
            refine a_go (by decide) (v_icmp_ne d_MO_offer_42 (t := 49) (by decide) (fun c5 => ?_) (fun c5 => ?_))
            · skip
              replace hok := mm_okn hok c5
              refine a_go (by decide) (v_iconst d_MO_offer_49 ki_0 ?_)
              refine a_go (by decide) (v_istore_n d_MO_offer_50 (by decide) ?_)
              refine a_go (by decide) (v_aload_n d_MO_offer_51 rfl ?_)
              refine a_go (by decide) (v_iconst d_MO_offer_52 ki_0 ?_)
              refine a_go (by decide) (v_putI d_MO_offer_53 rfl rfl rfl ?_)
              refine a_go (by decide) (v_iload_n d_MO_offer_56 rfl ?_)
              refine a_go (by decide) (v_if_eq d_MO_offer_57 (t := 90) (by decide) (fun c6 => ?_) (fun c6 => absurd c6 (by decide)))
              refine a_go (by decide) (v_bipush d_MO_offer_90 kb_m105 ?_)
              refine a_go (by decide) (v_ireturn d_MO_offer_92 rfl rfl ?_)
              exact mm_fiVS hk (mm_ifp c1 (mm_ifn c2 (mm_ifp c3 (mm_ifn c4 (mm_ifn c5 rfl)))))
            · skip
              replace hok := mm_okp hok c5
              refine a_go (by decide) (v_iconst d_MO_offer_45 ki_1 ?_)
              refine a_go (by decide) (v_goto d_MO_offer_46 (t := 50) (by decide) ?_)
              refine a_go (by decide) (v_istore_n d_MO_offer_50 (by decide) ?_)
              refine a_go (by decide) (v_aload_n d_MO_offer_51 rfl ?_)
              refine a_go (by decide) (v_iconst d_MO_offer_52 ki_0 ?_)
              refine a_go (by decide) (v_putI d_MO_offer_53 rfl rfl rfl ?_)
              refine a_go (by decide) (v_iload_n d_MO_offer_56 rfl ?_)
              refine a_go (by decide) (v_if_eq d_MO_offer_57 (t := 90) (by decide) (fun c7 => absurd c7 (by decide)) (fun c7 => ?_))
              refine a_go (by decide) (v_aload_n d_MO_offer_60 rfl ?_)
              refine a_go (by decide) (v_aload_n d_MO_offer_61 rfl ?_)
              refine a_go (by decide) (v_getR d_MO_offer_62 rfl rfl rfl ?_)
              refine a_go (by decide) (v_iconst d_MO_offer_65 ki_0 ?_)
              refine a_go (by decide) (v_callV d_MO_offer_66 rfl (mm_spl 3 rfl) rfl (Nat.le_of_ble_eq_true rfl) rfl ?_)
              have o2 := And.left hok
              replace hok := And.right hok
              refine (i_m_isRight rfl o2 ?_)
              refine a_go (by decide) (v_if_eq d_MO_offer_69 (t := 90) (by decide) (fun c8 => ?_) (fun c8 => ?_))
              · skip
                replace hok := mm_okp hok c8
                refine a_go (by decide) (v_bipush d_MO_offer_90 kb_m105 ?_)
                refine a_go (by decide) (v_ireturn d_MO_offer_92 rfl rfl ?_)
                exact mm_fiVS hk (mm_ifp c1 (mm_ifn c2 (mm_ifp c3 (mm_ifn c4 (mm_ifp c5 (mm_ifp c8 rfl))))))
              · skip
                replace hok := mm_okn hok c8
                refine a_go (by decide) (v_aload_n d_MO_offer_72 rfl ?_)
                refine a_go (by decide) (v_aload_n d_MO_offer_73 rfl ?_)
                refine a_go (by decide) (v_getR d_MO_offer_74 rfl rfl rfl ?_)
                refine a_go (by decide) (v_iconst d_MO_offer_77 ki_4 ?_)
                refine a_go (by decide) (v_iconst d_MO_offer_78 ki_4 ?_)
                refine a_go (by decide) (v_callV d_MO_offer_79 rfl (mm_spl 4 rfl) rfl (Nat.le_of_ble_eq_true rfl) rfl ?_)
                have o3 := And.left hok
                replace hok := And.right hok
                refine (i_m_read rfl o3 ?_)
                refine a_go (by decide) (v_aload_n d_MO_offer_82 rfl ?_)
                refine a_go (by decide) (v_callV d_MO_offer_83 rfl (mm_spl 1 rfl) rfl (Nat.le_of_ble_eq_true rfl) rfl ?_)
                have o4 := And.left hok
                replace hok := And.right hok
                refine (i_m_counter o4 ?_)
                refine a_go (by decide) (v_lcmp d_MO_offer_86 ?_)
                refine a_go (by decide) (v_if_ge d_MO_offer_87 (t := 93) (by decide) (fun c9 => ?_) (fun c9 => ?_))
                · skip
                  replace hok := mm_okp hok c9
                  refine a_go (by decide) (v_aload_n d_MO_offer_93 rfl ?_)
                  refine a_go (by decide) (v_callV d_MO_offer_94 rfl (mm_spl 1 rfl) rfl (Nat.le_of_ble_eq_true rfl) rfl ?_)
                  have o5 := And.left hok
                  replace hok := And.right hok
                  refine (i_m_activeSlot o5 ?_)
                  refine a_go (by decide) (v_callS d_MO_offer_97 rfl (mm_spl 1 rfl) rfl (Nat.le_of_ble_eq_true rfl) ?_)
                  refine (i_m_otherOf ?_)
                  refine a_go (by decide) (v_istore_n d_MO_offer_100 (by decide) ?_)
                  refine a_go (by decide) (v_aload_n d_MO_offer_101 rfl ?_)
                  refine a_go (by decide) (v_iload_n d_MO_offer_102 rfl ?_)
                  refine a_go (by decide) (v_callS d_MO_offer_103 rfl (mm_spl 1 rfl) rfl (Nat.le_of_ble_eq_true rfl) ?_)
                  refine (i_m_headOf ?_)
                  refine a_go (by decide) (v_bipush d_MO_offer_106 kb_64 ?_)
                  refine a_go (by decide) (v_idiv d_MO_offer_108 (by decide) ?_)
                  refine a_go (by decide) (v_callV d_MO_offer_109 rfl (mm_spl 2 rfl) rfl (Nat.le_of_ble_eq_true rfl) rfl ?_)
                  have o6 := And.left hok
                  replace hok := And.right hok
                  refine (i_m_erased o6 ?_)
                  refine a_go (by decide) (v_if_ne d_MO_offer_112 (t := 118) (by decide) (fun c10 => ?_) (fun c10 => ?_))
                  · skip
                    replace hok := mm_okn hok c10
                    refine a_go (by decide) (v_iconst d_MO_offer_118 ki_0 ?_)
                    refine a_go (by decide) (v_istore_n d_MO_offer_119 (by decide) ?_)
                    refine a_cut (by decide) ⟨rfl, _, [(0, _), (2, _), (3, _)], (mm_all_c rfl (mm_all_c rfl (mm_all_c rfl (mm_all_n)))), ⟨rfl, _, _, _, rfl, rfl, hok, (mm_mvVS hk (mm_ifp c1 (mm_ifn c2 (mm_ifp c3 (mm_ifn c4 (mm_ifp c5 (mm_ifn c8 (mm_ifp c9 (mm_ifn c10 rfl)))))))))⟩⟩
                  · skip
                    replace hok := mm_okp hok c10
                    refine a_go (by decide) (v_bipush d_MO_offer_115 kb_m106 ?_)
                    refine a_go (by decide) (v_ireturn d_MO_offer_117 rfl rfl ?_)
                    exact mm_fiVS hk (mm_ifp c1 (mm_ifn c2 (mm_ifp c3 (mm_ifn c4 (mm_ifp c5 (mm_ifn c8 (mm_ifp c9 (mm_ifp c10 rfl))))))))
                · skip
                  replace hok := mm_okn hok c9
                  refine a_go (by decide) (v_bipush d_MO_offer_90 kb_m105 ?_)
                  refine a_go (by decide) (v_ireturn d_MO_offer_92 rfl rfl ?_)
                  exact mm_fiVS hk (mm_ifp c1 (mm_ifn c2 (mm_ifp c3 (mm_ifn c4 (mm_ifp c5 (mm_ifn c8 (mm_ifn c9 rfl)))))))
          · skip
            replace hok := mm_okp hok c4
            refine a_go (by decide) (v_bipush d_MO_offer_33 kb_m103 ?_)
            refine a_go (by decide) (v_ireturn d_MO_offer_35 rfl rfl ?_)
            exact mm_fiVS hk (mm_ifp c1 (mm_ifn c2 (mm_ifp c3 (mm_ifp c4 rfl))))
    · skip
      replace hok := mm_okn hok c1
      refine a_go (by decide) (v_bipush d_MO_offer_7 kb_m100 ?_)
      refine a_go (by decide) (v_ireturn d_MO_offer_9 rfl rfl ?_)
      exact mm_fiVS hk (mm_ifn c1 rfl)
  · rintro as x0 K - k pc lv x - hinv
    obtain ⟨rfl, f, u2, u3, hkf, rfl, hok, hk⟩ := hinv
    cases f with
    | zero => exact False.elim hok
    | succ k =>
      subst hkf
      refine ⟨900, ?_⟩
      refine v_iload_n d_MO_offer_120 rfl ?_
      refine a_go (by decide) (v_bipush d_MO_offer_121 kb_64 ?_)
      refine a_go (by decide) (v_icmp_ge d_MO_offer_123 (t := 144) (by decide) (fun c11 => ?_) (fun c11 => ?_))
      · skip
        replace hok := mm_okp hok c11
        refine a_go (by decide) (v_aload_n d_MO_offer_144 rfl ?_)
        refine a_go (by decide) (v_iload_n d_MO_offer_145 rfl ?_)
        refine a_go (by decide) (v_putI d_MO_offer_146 rfl rfl rfl ?_)
        refine a_go (by decide) (v_aload_n d_MO_offer_149 rfl ?_)
        refine a_go (by decide) (v_iconst d_MO_offer_150 ki_0 ?_)
        refine a_go (by decide) (v_putI d_MO_offer_151 rfl rfl rfl ?_)
        refine a_go (by decide) (v_iload_n d_MO_offer_154 rfl ?_)
        refine a_go (by decide) (v_ireturn d_MO_offer_155 rfl rfl ?_)
        exact mm_fiVS hk (mm_ifp c11 rfl)
      · skip
        replace hok := mm_okn hok c11
        refine a_go (by decide) (v_aload_n d_MO_offer_126 rfl ?_)
        refine a_go (by decide) (v_getR d_MO_offer_127 rfl rfl rfl ?_)
        refine a_go (by decide) (v_iload_n d_MO_offer_130 rfl ?_)
        refine a_go (by decide) (v_aload_n d_MO_offer_131 rfl ?_)
        refine a_go (by decide) (v_getR d_MO_offer_132 rfl rfl rfl ?_)
        refine a_go (by decide) (v_iload_n d_MO_offer_135 rfl ?_)
        have o7 := And.left hok
        replace hok := And.right hok
        refine a_go (by decide) (v_iaload d_MO_offer_136 (by decide) rfl o7 ?_)
        have o8 := And.left hok
        replace hok := And.right hok
        refine a_go (by decide) (v_iastore d_MO_offer_137 rfl o8 ?_)
        refine a_go (by decide) (v_iinc d_MO_offer_138 (by decide) rfl ki_1 ?_)
        refine a_go (by decide) (v_goto d_MO_offer_141 (t := 120) (by decide) ?_)
        refine a_cut (by decide) ⟨rfl, _, [(0, _), (2, _), (3, _)], ?_, (mm_all_c rfl (mm_all_c rfl (mm_all_c rfl (mm_all_n)))), ⟨rfl, _, _, _, rfl, rfl, hok, (mm_mvVS hk (mm_ifn c11 rfl))⟩⟩
        exact Nat.lt_succ_self _
-- TwoSlotsModel.awaited()I
def e_m_awaited (x : mm_S) : Int32 :=
  if (x.1 106) = (-1 : Int32) then
    (0 : Int32)
  else
    (Int64.toInt32 (e_m_read 64 12 (8 : Int32) (4 : Int32) x)) - (x.1 107)
def ok_m_awaited (x : mm_S) : Prop := if (x.1 106) = (-1 : Int32) then (True) else ((ok_m_read 64 12 (8 : Int32) (4 : Int32) x) ∧ (True))
def S_m_awaited : mm_P := fun as x K => as = [.ref 11] ∧ (ok_m_awaited x) ∧ K (some (.int (e_m_awaited x))) x
theorem i_m_awaited {x : mm_S} {K : mm_K} (hpre : (ok_m_awaited x)) (hk : K (some (.int (e_m_awaited x))) x) : S_m_awaited [.ref 11] x K := ⟨rfl, hpre, hk⟩
def G_m_awaited : mm_G := (FT_MO, CI_MO, CJ_MO, mm_tb [], mm_tb [(68, 4, 5, S_m_read)], none)
def rm_m_awaited : Room := { frames := 1, cells := 0, slots := 0, locals := 26 }
set_option maxHeartbeats 40000000 in
set_option maxRecDepth 10000 in
theorem c_m_awaited (l : Launch) : mm_Con l NW CL TB LL y_MO_awaited b_MO_awaited 1 (some .int) rm_m_awaited S_m_awaited := by
  refine mm_con G_m_awaited [] (fun _ _ _ _ _ _ _ => False) (by decide +kernel) tb_good LL_u nw_nest ?_ rfl ft_MO ci_MO cj_MO ?_ ?_ ?_ ?_
  · rintro as x K ⟨rfl, -⟩
    exact Nat.le_of_ble_eq_true rfl
  · exact mm_tb_e (fun _ h => absurd h List.not_mem_nil)
  · exact mm_tb_e (List.forall_mem_cons.mpr ⟨mm_cvt_i (c_m_read l) (mm_cb_i rfl rfl (by decide) (by decide) tc_MO_read ti_MO ⟨by decide, by decide, by decide +kernel⟩ (Or.inl tl_MO_68)) rfl tv_MO_read tx_MO_read, fun _ h => absurd h List.not_mem_nil⟩)
  · rintro as x K ⟨rfl, hok, hk⟩
    refine ⟨400, ?_⟩
    refine v_aload_n d_MO_awaited_0 rfl ?_
    refine a_go (by decide) (v_getI d_MO_awaited_1 rfl rfl rfl ?_)
    refine a_go (by decide) (v_iconst d_MO_awaited_4 ki_m1 ?_)
    refine a_go (by decide) (v_icmp_ne d_MO_awaited_5 (t := 12) (by decide) (fun c1 => ?_) (fun c1 => ?_))
    · skip
      replace hok := mm_okn hok c1
      refine a_go (by decide) (v_aload_n d_MO_awaited_12 rfl ?_)
      refine a_go (by decide) (v_aload_n d_MO_awaited_13 rfl ?_)
      refine a_go (by decide) (v_getR d_MO_awaited_14 rfl rfl rfl ?_)
      refine a_go (by decide) (v_bipush d_MO_awaited_17 kb_8 ?_)
      refine a_go (by decide) (v_iconst d_MO_awaited_19 ki_4 ?_)
      refine a_go (by decide) (v_callV d_MO_awaited_20 rfl (mm_spl 4 rfl) rfl (Nat.le_of_ble_eq_true rfl) rfl ?_)
      have o1 := And.left hok
      replace hok := And.right hok
      refine (i_m_read rfl o1 ?_)
      refine a_go (by decide) (v_l2i d_MO_awaited_23 ?_)
      refine a_go (by decide) (v_aload_n d_MO_awaited_24 rfl ?_)
      refine a_go (by decide) (v_getI d_MO_awaited_25 rfl rfl rfl ?_)
      refine a_go (by decide) (v_isub d_MO_awaited_28 ?_)
      refine a_go (by decide) (v_ireturn d_MO_awaited_29 rfl rfl ?_)
      exact mm_fiV hk (mm_ifn c1 rfl)
    · skip
      replace hok := mm_okp hok c1
      refine a_go (by decide) (v_iconst d_MO_awaited_8 ki_0 ?_)
      refine a_go (by decide) (v_goto d_MO_awaited_9 (t := 29) (by decide) ?_)
      refine a_go (by decide) (v_ireturn d_MO_awaited_29 rfl rfl ?_)
      exact mm_fiV hk (mm_ifp c1 rfl)
  · intro as x K _ k pc lv x' h
    cases h
-- TwoSlotsModel.block()I
def l_m_block_89 (k : Nat) (u2 : Int32) (u3 : Int32) (x : mm_S) : Int32 × mm_S := match k with
  | 0 => (0, x)
  | k + 1 =>
    if (64 : Int32) ≤ u3 then
      let x5 := mm_setI x 107 ((x.1 107) + (1 : Int32))
      (e_m_awaited x5, x5)
    else
      let q6 := e_m_programmed (u2 + u3) 64 11 u3 x
      if q6.1 = (0 : Int32) then
        ((-106 : Int32), q6.2)
      else
        l_m_block_89 (k) u2 (u3 + (16 : Int32)) q6.2
def okl_m_block_89 (k : Nat) (u2 : Int32) (u3 : Int32) (x : mm_S) : Prop := match k with
  | 0 => False
  | k + 1 => if (64 : Int32) ≤ u3 then (let x5 := mm_setI x 107 ((x.1 107) + (1 : Int32)); (ok_m_awaited  x5) ∧ (True)) else ((ok_m_programmed (u2 + u3) 64 11 u3 x) ∧ (let q6 := e_m_programmed (u2 + u3) 64 11 u3 x; if q6.1 = (0 : Int32) then (True) else (okl_m_block_89 (k) u2 (u3 + (16 : Int32)) q6.2)))
def e_m_block (x : mm_S) : Int32 × mm_S :=
  if (x.1 100) = (0 : Int32) then
    if (x.1 106) = (-1 : Int32) then
      ((-103 : Int32), x)
    else
      if (e_m_awaited x) = (0 : Int32) then
        ((-103 : Int32), x)
      else
        if (x.1 105) = (64 : Int32) then
          let x2 := mm_setI x 105 (0 : Int32)
          let y3 := (e_m_headOf (x2.1 106) x2) + ((64 : Int32) * ((1 : Int32) + (x2.1 107)))
          let q4 := e_m_erased (y3 / (64 : Int32)) x2
          if q4.1 = (0 : Int32) then
            ((-106 : Int32), q4.2)
          else
            l_m_block_89 (mm_fu (0 : Int32) 64) y3 (0 : Int32) q4.2
        else
          let x1 := mm_setI x 105 (0 : Int32)
          ((-105 : Int32), x1)
  else
    ((-100 : Int32), x)
def ok_m_block (x : mm_S) : Prop := if (x.1 100) = (0 : Int32) then (if (x.1 106) = (-1 : Int32) then (True) else ((ok_m_awaited  x) ∧ (if (e_m_awaited x) = (0 : Int32) then (True) else (if (x.1 105) = (64 : Int32) then (let x2 := mm_setI x 105 (0 : Int32); let y3 := (e_m_headOf (x2.1 106) x2) + ((64 : Int32) * ((1 : Int32) + (x2.1 107))); (ok_m_erased (y3 / (64 : Int32)) x2) ∧ (let q4 := e_m_erased (y3 / (64 : Int32)) x2; if q4.1 = (0 : Int32) then (True) else (okl_m_block_89 (mm_fu (0 : Int32) 64) y3 (0 : Int32) q4.2))) else (let x1 := mm_setI x 105 (0 : Int32); True))))) else (True)
def S_m_block : mm_P := fun as x K => as = [.ref 11] ∧ (ok_m_block x) ∧ K (some (.int (e_m_block x).1)) (e_m_block x).2
theorem i_m_block {x : mm_S} {K : mm_K} (hpre : (ok_m_block x)) (hk : K (some (.int (e_m_block x).1)) (e_m_block x).2) : S_m_block [.ref 11] x K := ⟨rfl, hpre, hk⟩
def G_m_block : mm_G := (FT_MO, CI_MO, CJ_MO, mm_tb [(84, 1, S_m_headOf)], mm_tb [(162, 1, 5, S_m_awaited), (122, 2, 5, S_m_erased), (125, 4, 5, S_m_programmed)], none)
def rm_m_block : Room := { frames := 2, cells := 0, slots := 0, locals := 47 }
abbrev Inv_m_block : mm_K → List Value → mm_S → Nat → Nat → mm_V → mm_S → Prop := fun K _ _ k pc lv x => (pc = 89 ∧ ∃ (f : Nat) (u2 : Int32) (u3 : Int32), k = f + 0 ∧ lv = [(0, .ref 11), (2, .int u2), (3, .int u3)] ∧ okl_m_block_89 f u2 u3 x ∧ K (some (.int (l_m_block_89 f u2 u3 x).1)) (l_m_block_89 f u2 u3 x).2)
set_option maxHeartbeats 40000000 in
set_option maxRecDepth 10000 in
theorem c_m_block (l : Launch) : mm_Con l NW CL TB LL y_MO_block b_MO_block 4 (some .int) rm_m_block S_m_block := by
  refine mm_con G_m_block [89] Inv_m_block (by decide +kernel) tb_good LL_u nw_nest ?_ rfl ft_MO ci_MO cj_MO ?_ ?_ ?_ ?_
  · rintro as x K ⟨rfl, -⟩
    exact Nat.le_of_ble_eq_true rfl
  · exact mm_tb_e (List.forall_mem_cons.mpr ⟨mm_cst_i (c_m_headOf l) (mm_cb_i rfl rfl (by decide) (by decide) tc_MO_headOf ti_MO ⟨by decide, by decide, by decide +kernel⟩ (Or.inl tl_MO_84)) ts_MO_headOf, fun _ h => absurd h List.not_mem_nil⟩)
  · exact mm_tb_e (List.forall_mem_cons.mpr ⟨mm_cvt_i (c_m_awaited l) (mm_cb_i rfl rfl (by decide) (by decide) tc_MO_awaited ti_MO ⟨by decide, by decide, by decide +kernel⟩ (Or.inl tl_MO_162)) rfl tv_MO_awaited tx_MO_awaited, List.forall_mem_cons.mpr ⟨mm_cvt_i (c_m_erased l) (mm_cb_i rfl rfl (by decide) (by decide) tc_MO_erased ti_MO ⟨by decide, by decide, by decide +kernel⟩ (Or.inl tl_MO_122)) rfl tv_MO_erased tx_MO_erased, List.forall_mem_cons.mpr ⟨mm_cvt_i (c_m_programmed l) (mm_cb_i rfl rfl (by decide) (by decide) tc_MO_programmed ti_MO ⟨by decide, by decide, by decide +kernel⟩ (Or.inl tl_MO_125)) rfl tv_MO_programmed tx_MO_programmed, fun _ h => absurd h List.not_mem_nil⟩⟩⟩)
  · rintro as x K ⟨rfl, hok, hk⟩
    refine ⟨400, ?_⟩
    refine v_aload_n d_MO_block_0 rfl ?_
    refine a_go (by decide) (v_getI d_MO_block_1 rfl rfl rfl ?_)
    refine a_go (by decide) (v_if_eq d_MO_block_4 (t := 10) (by decide) (fun c1 => ?_) (fun c1 => ?_))
    · skip
      replace hok := mm_okp hok c1
      refine a_go (by decide) (v_aload_n d_MO_block_10 rfl ?_)
      refine a_go (by decide) (v_getI d_MO_block_11 rfl rfl rfl ?_)
      refine a_go (by decide) (v_iconst d_MO_block_14 ki_m1 ?_)
      refine a_go (by decide) (v_icmp_eq d_MO_block_15 (t := 25) (by decide) (fun c2 => ?_) (fun c2 => ?_))
      · skip
        replace hok := mm_okp hok c2
        refine a_go (by decide) (v_bipush d_MO_block_25 kb_m103 ?_)
        refine a_go (by decide) (v_ireturn d_MO_block_27 rfl rfl ?_)
        exact mm_fiVS hk (mm_ifp c1 (mm_ifp c2 rfl))
      · skip
        replace hok := mm_okn hok c2
        refine a_go (by decide) (v_aload_n d_MO_block_18 rfl ?_)
        refine a_go (by decide) (v_callV d_MO_block_19 rfl (mm_spl 1 rfl) rfl (Nat.le_of_ble_eq_true rfl) rfl ?_)
        have o1 := And.left hok
        replace hok := And.right hok
        refine (i_m_awaited o1 ?_)
        refine a_go (by decide) (v_if_ne d_MO_block_22 (t := 28) (by decide) (fun c3 => ?_) (fun c3 => ?_))
        · skip
          replace hok := mm_okn hok c3
          refine a_go (by decide) (v_aload_n d_MO_block_28 rfl ?_)
          refine a_go (by decide) (v_getI d_MO_block_29 rfl rfl rfl ?_)
          refine a_go (by decide) (v_bipush d_MO_block_32 kb_64 ?_)
          refine a_go (by decide) (v_icmp_ne d_MO_block_34 (t := 41) (by decide) (fun c4 => ?_) (fun c4 => ?_))
          · skip
            replace hok := mm_okn hok c4
            refine a_go (by decide) (v_iconst d_MO_block_41 ki_0 ?_)
            refine a_go (by decide) (v_istore_n d_MO_block_42 (by decide) ?_)
            refine a_go (by decide) (v_aload_n d_MO_block_43 rfl ?_)
            refine a_go (by decide) (v_iconst d_MO_block_44 ki_0 ?_)
            refine a_go (by decide) (v_putI d_MO_block_45 rfl rfl rfl ?_)
            refine a_go (by decide) (v_iload_n d_MO_block_48 rfl ?_)
            refine a_go (by decide) (v_if_ne d_MO_block_49 (t := 55) (by decide) (fun c5 => absurd c5 (by decide)) (fun c5 => ?_))
            refine a_go (by decide) (v_bipush d_MO_block_52 kb_m105 ?_)
            refine a_go (by decide) (v_ireturn d_MO_block_54 rfl rfl ?_)
            exact mm_fiVS hk (mm_ifp c1 (mm_ifn c2 (mm_ifn c3 (mm_ifn c4 rfl))))
          · skip
            replace hok := mm_okp hok c4
            refine a_go (by decide) (v_iconst d_MO_block_37 ki_1 ?_)
            refine a_go (by decide) (v_goto d_MO_block_38 (t := 42) (by decide) ?_)
            refine a_go (by decide) (v_istore_n d_MO_block_42 (by decide) ?_)
            refine a_go (by decide) (v_aload_n d_MO_block_43 rfl ?_)
            refine a_go (by decide) (v_iconst d_MO_block_44 ki_0 ?_)
            refine a_go (by decide) (v_putI d_MO_block_45 rfl rfl rfl ?_)
            refine a_go (by decide) (v_iload_n d_MO_block_48 rfl ?_)
            refine a_go (by decide) (v_if_ne d_MO_block_49 (t := 55) (by decide) (fun c6 => ?_) (fun c6 => absurd c6 (by decide)))
            refine a_go (by decide) (v_aload_n d_MO_block_55 rfl ?_)
            refine a_go (by decide) (v_getI d_MO_block_56 rfl rfl rfl ?_)
            refine a_go (by decide) (v_callS d_MO_block_59 rfl (mm_spl 1 rfl) rfl (Nat.le_of_ble_eq_true rfl) ?_)
            refine (i_m_headOf ?_)
            refine a_go (by decide) (v_bipush d_MO_block_62 kb_64 ?_)
            refine a_go (by decide) (v_iconst d_MO_block_64 ki_1 ?_)
            refine a_go (by decide) (v_aload_n d_MO_block_65 rfl ?_)
            refine a_go (by decide) (v_getI d_MO_block_66 rfl rfl rfl ?_)
            refine a_go (by decide) (v_iadd d_MO_block_69 ?_)
            refine a_go (by decide) (v_imul d_MO_block_70 ?_)
            refine a_go (by decide) (v_iadd d_MO_block_71 ?_)
            refine a_go (by decide) (v_istore_n d_MO_block_72 (by decide) ?_)
            refine a_go (by decide) (v_aload_n d_MO_block_73 rfl ?_)
            refine a_go (by decide) (v_iload_n d_MO_block_74 rfl ?_)
            refine a_go (by decide) (v_bipush d_MO_block_75 kb_64 ?_)
            refine a_go (by decide) (v_idiv d_MO_block_77 (by decide) ?_)
            refine a_go (by decide) (v_callV d_MO_block_78 rfl (mm_spl 2 rfl) rfl (Nat.le_of_ble_eq_true rfl) rfl ?_)
            have o2 := And.left hok
            replace hok := And.right hok
            refine (i_m_erased o2 ?_)
            refine a_go (by decide) (v_if_ne d_MO_block_81 (t := 87) (by decide) (fun c7 => ?_) (fun c7 => ?_))
            · skip
              replace hok := mm_okn hok c7
              refine a_go (by decide) (v_iconst d_MO_block_87 ki_0 ?_)
              refine a_go (by decide) (v_istore_n d_MO_block_88 (by decide) ?_)
              refine a_cut (by decide) ⟨rfl, _, [(0, _), (2, _), (3, _)], (mm_all_c rfl (mm_all_c rfl (mm_all_c rfl (mm_all_n)))), ⟨rfl, _, _, _, rfl, rfl, hok, (mm_mvVS hk (mm_ifp c1 (mm_ifn c2 (mm_ifn c3 (mm_ifp c4 (mm_ifn c7 rfl))))))⟩⟩
            · skip
              replace hok := mm_okp hok c7
              refine a_go (by decide) (v_bipush d_MO_block_84 kb_m106 ?_)
              refine a_go (by decide) (v_ireturn d_MO_block_86 rfl rfl ?_)
              exact mm_fiVS hk (mm_ifp c1 (mm_ifn c2 (mm_ifn c3 (mm_ifp c4 (mm_ifp c7 rfl)))))
        · skip
          replace hok := mm_okp hok c3
          refine a_go (by decide) (v_bipush d_MO_block_25 kb_m103 ?_)
          refine a_go (by decide) (v_ireturn d_MO_block_27 rfl rfl ?_)
          exact mm_fiVS hk (mm_ifp c1 (mm_ifn c2 (mm_ifp c3 rfl)))
    · skip
      replace hok := mm_okn hok c1
      refine a_go (by decide) (v_bipush d_MO_block_7 kb_m100 ?_)
      refine a_go (by decide) (v_ireturn d_MO_block_9 rfl rfl ?_)
      exact mm_fiVS hk (mm_ifn c1 rfl)
  · rintro as x0 K - k pc lv x - hinv
    obtain ⟨rfl, f, u2, u3, hkf, rfl, hok, hk⟩ := hinv
    cases f with
    | zero => exact False.elim hok
    | succ k =>
      subst hkf
      refine ⟨900, ?_⟩
      refine v_iload_n d_MO_block_89 rfl ?_
      refine a_go (by decide) (v_bipush d_MO_block_90 kb_64 ?_)
      refine a_go (by decide) (v_icmp_ge d_MO_block_92 (t := 119) (by decide) (fun c8 => ?_) (fun c8 => ?_))
      · skip
        replace hok := mm_okp hok c8
        refine a_go (by decide) (v_aload_n d_MO_block_119 rfl ?_)
        refine a_go (by decide) (v_dup d_MO_block_120 rfl ?_)
        refine a_go (by decide) (v_getI d_MO_block_121 rfl rfl rfl ?_)
        refine a_go (by decide) (v_iconst d_MO_block_124 ki_1 ?_)
        refine a_go (by decide) (v_iadd d_MO_block_125 ?_)
        refine a_go (by decide) (v_putI d_MO_block_126 rfl rfl rfl ?_)
        refine a_go (by decide) (v_aload_n d_MO_block_129 rfl ?_)
        refine a_go (by decide) (v_callV d_MO_block_130 rfl (mm_spl 1 rfl) rfl (Nat.le_of_ble_eq_true rfl) rfl ?_)
        have o3 := And.left hok
        replace hok := And.right hok
        refine (i_m_awaited o3 ?_)
        refine a_go (by decide) (v_ireturn d_MO_block_133 rfl rfl ?_)
        exact mm_fiVS hk (mm_ifp c8 rfl)
      · skip
        replace hok := mm_okn hok c8
        refine a_go (by decide) (v_aload_n d_MO_block_95 rfl ?_)
        refine a_go (by decide) (v_iload_n d_MO_block_96 rfl ?_)
        refine a_go (by decide) (v_iload_n d_MO_block_97 rfl ?_)
        refine a_go (by decide) (v_iadd d_MO_block_98 ?_)
        refine a_go (by decide) (v_aload_n d_MO_block_99 rfl ?_)
        refine a_go (by decide) (v_getR d_MO_block_100 rfl rfl rfl ?_)
        refine a_go (by decide) (v_iload_n d_MO_block_103 rfl ?_)
        refine a_go (by decide) (v_callV d_MO_block_104 rfl (mm_spl 4 rfl) rfl (Nat.le_of_ble_eq_true rfl) rfl ?_)
        have o4 := And.left hok
        replace hok := And.right hok
        refine (i_m_programmed rfl o4 ?_)
        refine a_go (by decide) (v_if_ne d_MO_block_107 (t := 113) (by decide) (fun c9 => ?_) (fun c9 => ?_))
        · skip
          replace hok := mm_okn hok c9
          refine a_go (by decide) (v_iinc d_MO_block_113 (by decide) rfl ki_16 ?_)
          refine a_go (by decide) (v_goto d_MO_block_116 (t := 89) (by decide) ?_)
          refine a_cut (by decide) ⟨rfl, _, [(0, _), (2, _), (3, _)], ?_, (mm_all_c rfl (mm_all_c rfl (mm_all_c rfl (mm_all_n)))), ⟨rfl, _, _, _, rfl, rfl, hok, (mm_mvVS hk (mm_ifn c8 (mm_ifn c9 rfl)))⟩⟩
          exact Nat.lt_succ_self _
        · skip
          replace hok := mm_okp hok c9
          refine a_go (by decide) (v_bipush d_MO_block_110 kb_m106 ?_)
          refine a_go (by decide) (v_ireturn d_MO_block_112 rfl rfl ?_)
          exact mm_fiVS hk (mm_ifn c8 (mm_ifp c9 rfl))
-- TwoSlotsModel.finish()I
def l_m_finish_77 (k : Nat) (u1 : Int32) (u2 : Int32) (x : mm_S) : Int32 × mm_S := match k with
  | 0 => (0, x)
  | k + 1 =>
    if (64 : Int32) ≤ u2 then
      let q3 := e_m_appended (-2 : Int32) u1 (3 : Int32) (-2 : Int32) (-2 : Int64) x
      if q3.1 = (0 : Int32) then
        ((-106 : Int32), q3.2)
      else
        let x4 := mm_setI q3.2 106 (-1 : Int32)
        let x5 := mm_setA x4 13 (upd (x4.2.2 13) (Int32.toNatClampNeg (6 : Int32)) ((x4.2.2 13 (Int32.toNatClampNeg (6 : Int32))) + (1 : Int32)))
        (u1, x5)
    else
      let q6 := e_m_programmed ((e_m_headOf u1 x) + u2) 64 12 u2 x
      if q6.1 = (0 : Int32) then
        ((-106 : Int32), q6.2)
      else
        l_m_finish_77 (k) u1 (u2 + (16 : Int32)) q6.2
def okl_m_finish_77 (k : Nat) (u1 : Int32) (u2 : Int32) (x : mm_S) : Prop := match k with
  | 0 => False
  | k + 1 => if (64 : Int32) ≤ u2 then ((ok_m_appended (-2 : Int32) u1 (3 : Int32) (-2 : Int32) (-2 : Int64) x) ∧ (let q3 := e_m_appended (-2 : Int32) u1 (3 : Int32) (-2 : Int32) (-2 : Int64) x; if q3.1 = (0 : Int32) then (True) else (let x4 := mm_setI q3.2 106 (-1 : Int32); (vp_in (6 : Int32) 7) ∧ ((vp_in (6 : Int32) 7) ∧ (let x5 := mm_setA x4 13 (upd (x4.2.2 13) (Int32.toNatClampNeg (6 : Int32)) ((x4.2.2 13 (Int32.toNatClampNeg (6 : Int32))) + (1 : Int32))); True))))) else ((ok_m_programmed ((e_m_headOf u1 x) + u2) 64 12 u2 x) ∧ (let q6 := e_m_programmed ((e_m_headOf u1 x) + u2) 64 12 u2 x; if q6.1 = (0 : Int32) then (True) else (okl_m_finish_77 (k) u1 (u2 + (16 : Int32)) q6.2)))
def e_m_finish (x : mm_S) : Int32 × mm_S :=
  if (x.1 100) = (0 : Int32) then
    if (x.1 106) = (-1 : Int32) then
      ((-103 : Int32), x)
    else
      if (0 : Int32) < (e_m_awaited x) then
        ((-103 : Int32), x)
      else
        if (e_m_newest x) = (-1 : Int32) then
          ((-103 : Int32), x)
        else
          let y1 := x.1 106
          if (lg_cmp (e_m_bodyOf y1 64 12 (0 : Int32) x) (e_m_read 64 12 (20 : Int32) (8 : Int32) x)) = (0 : Int32) then
            l_m_finish_77 (mm_fu (0 : Int32) 64) y1 (0 : Int32) x
          else
            let x2 := mm_setI x 106 (-1 : Int32)
            ((-105 : Int32), x2)
  else
    ((-100 : Int32), x)
def ok_m_finish (x : mm_S) : Prop := if (x.1 100) = (0 : Int32) then (if (x.1 106) = (-1 : Int32) then (True) else ((ok_m_awaited  x) ∧ (if (0 : Int32) < (e_m_awaited x) then (True) else ((ok_m_newest  x) ∧ (if (e_m_newest x) = (-1 : Int32) then (True) else (let y1 := x.1 106; (ok_m_bodyOf y1 64 12 (0 : Int32) x) ∧ ((ok_m_read 64 12 (20 : Int32) (8 : Int32) x) ∧ (if (lg_cmp (e_m_bodyOf y1 64 12 (0 : Int32) x) (e_m_read 64 12 (20 : Int32) (8 : Int32) x)) = (0 : Int32) then (okl_m_finish_77 (mm_fu (0 : Int32) 64) y1 (0 : Int32) x) else (let x2 := mm_setI x 106 (-1 : Int32); True))))))))) else (True)
def S_m_finish : mm_P := fun as x K => as = [.ref 11] ∧ (ok_m_finish x) ∧ K (some (.int (e_m_finish x).1)) (e_m_finish x).2
theorem i_m_finish {x : mm_S} {K : mm_K} (hpre : (ok_m_finish x)) (hk : K (some (.int (e_m_finish x).1)) (e_m_finish x).2) : S_m_finish [.ref 11] x K := ⟨rfl, hpre, hk⟩
def G_m_finish : mm_G := (FT_MO, CI_MO, CJ_MO, mm_tb [(84, 1, S_m_headOf)], mm_tb [(162, 1, 5, S_m_awaited), (80, 1, 5, S_m_newest), (96, 4, 5, S_m_bodyOf), (68, 4, 5, S_m_read), (165, 6, 5, S_m_appended), (125, 4, 5, S_m_programmed)], none)
def rm_m_finish : Room := { frames := 3, cells := 0, slots := 0, locals := 83 }
abbrev Inv_m_finish : mm_K → List Value → mm_S → Nat → Nat → mm_V → mm_S → Prop := fun K _ _ k pc lv x => (pc = 77 ∧ ∃ (f : Nat) (u1 : Int32) (u2 : Int32), k = f + 0 ∧ lv = [(0, .ref 11), (1, .int u1), (2, .int u2)] ∧ okl_m_finish_77 f u1 u2 x ∧ K (some (.int (l_m_finish_77 f u1 u2 x).1)) (l_m_finish_77 f u1 u2 x).2)
set_option maxHeartbeats 40000000 in
set_option maxRecDepth 10000 in
theorem c_m_finish (l : Launch) : mm_Con l NW CL TB LL y_MO_finish b_MO_finish 3 (some .int) rm_m_finish S_m_finish := by
  refine mm_con G_m_finish [77] Inv_m_finish (by decide +kernel) tb_good LL_u nw_nest ?_ rfl ft_MO ci_MO cj_MO ?_ ?_ ?_ ?_
  · rintro as x K ⟨rfl, -⟩
    exact Nat.le_of_ble_eq_true rfl
  · exact mm_tb_e (List.forall_mem_cons.mpr ⟨mm_cst_i (c_m_headOf l) (mm_cb_i rfl rfl (by decide) (by decide) tc_MO_headOf ti_MO ⟨by decide, by decide, by decide +kernel⟩ (Or.inl tl_MO_84)) ts_MO_headOf, fun _ h => absurd h List.not_mem_nil⟩)
  · exact mm_tb_e (List.forall_mem_cons.mpr ⟨mm_cvt_i (c_m_awaited l) (mm_cb_i rfl rfl (by decide) (by decide) tc_MO_awaited ti_MO ⟨by decide, by decide, by decide +kernel⟩ (Or.inl tl_MO_162)) rfl tv_MO_awaited tx_MO_awaited, List.forall_mem_cons.mpr ⟨mm_cvt_i (c_m_newest l) (mm_cb_i rfl rfl (by decide) (by decide) tc_MO_newest ti_MO ⟨by decide, by decide, by decide +kernel⟩ (Or.inl tl_MO_80)) rfl tv_MO_newest tx_MO_newest, List.forall_mem_cons.mpr ⟨mm_cvt_i (c_m_bodyOf l) (mm_cb_i rfl rfl (by decide) (by decide) tc_MO_bodyOf ti_MO ⟨by decide, by decide, by decide +kernel⟩ (Or.inl tl_MO_96)) rfl tv_MO_bodyOf tx_MO_bodyOf, List.forall_mem_cons.mpr ⟨mm_cvt_i (c_m_read l) (mm_cb_i rfl rfl (by decide) (by decide) tc_MO_read ti_MO ⟨by decide, by decide, by decide +kernel⟩ (Or.inl tl_MO_68)) rfl tv_MO_read tx_MO_read, List.forall_mem_cons.mpr ⟨mm_cvt_i (c_m_appended l) (mm_cb_i rfl rfl (by decide) (by decide) tc_MO_appended ti_MO ⟨by decide, by decide, by decide +kernel⟩ (Or.inl tl_MO_165)) rfl tv_MO_appended tx_MO_appended, List.forall_mem_cons.mpr ⟨mm_cvt_i (c_m_programmed l) (mm_cb_i rfl rfl (by decide) (by decide) tc_MO_programmed ti_MO ⟨by decide, by decide, by decide +kernel⟩ (Or.inl tl_MO_125)) rfl tv_MO_programmed tx_MO_programmed, fun _ h => absurd h List.not_mem_nil⟩⟩⟩⟩⟩⟩)
  · rintro as x K ⟨rfl, hok, hk⟩
    refine ⟨400, ?_⟩
    refine v_aload_n d_MO_finish_0 rfl ?_
    refine a_go (by decide) (v_getI d_MO_finish_1 rfl rfl rfl ?_)
    refine a_go (by decide) (v_if_eq d_MO_finish_4 (t := 10) (by decide) (fun c1 => ?_) (fun c1 => ?_))
    · skip
      replace hok := mm_okp hok c1
      refine a_go (by decide) (v_aload_n d_MO_finish_10 rfl ?_)
      refine a_go (by decide) (v_getI d_MO_finish_11 rfl rfl rfl ?_)
      refine a_go (by decide) (v_iconst d_MO_finish_14 ki_m1 ?_)
      refine a_go (by decide) (v_icmp_eq d_MO_finish_15 (t := 33) (by decide) (fun c2 => ?_) (fun c2 => ?_))
      · skip
        replace hok := mm_okp hok c2
        refine a_go (by decide) (v_bipush d_MO_finish_33 kb_m103 ?_)
        refine a_go (by decide) (v_ireturn d_MO_finish_35 rfl rfl ?_)
        exact mm_fiVS hk (mm_ifp c1 (mm_ifp c2 rfl))
      · skip
        replace hok := mm_okn hok c2
        refine a_go (by decide) (v_aload_n d_MO_finish_18 rfl ?_)
        refine a_go (by decide) (v_callV d_MO_finish_19 rfl (mm_spl 1 rfl) rfl (Nat.le_of_ble_eq_true rfl) rfl ?_)
        have o1 := And.left hok
        replace hok := And.right hok
        refine (i_m_awaited o1 ?_)
        refine a_go (by decide) (v_if_gt d_MO_finish_22 (t := 33) (by decide) (fun c3 => ?_) (fun c3 => ?_))
        · skip
          replace hok := mm_okp hok c3
          refine a_go (by decide) (v_bipush d_MO_finish_33 kb_m103 ?_)
          refine a_go (by decide) (v_ireturn d_MO_finish_35 rfl rfl ?_)
          exact mm_fiVS hk (mm_ifp c1 (mm_ifn c2 (mm_ifp c3 rfl)))
        · skip
          replace hok := mm_okn hok c3
          refine a_go (by decide) (v_aload_n d_MO_finish_25 rfl ?_)
          refine a_go (by decide) (v_callV d_MO_finish_26 rfl (mm_spl 1 rfl) rfl (Nat.le_of_ble_eq_true rfl) rfl ?_)
          have o2 := And.left hok
          replace hok := And.right hok
          refine (i_m_newest o2 ?_)
          refine a_go (by decide) (v_iconst d_MO_finish_29 ki_m1 ?_)
          refine a_go (by decide) (v_icmp_ne d_MO_finish_30 (t := 36) (by decide) (fun c4 => ?_) (fun c4 => ?_))
          · skip
            replace hok := mm_okn hok c4
            refine a_go (by decide) (v_aload_n d_MO_finish_36 rfl ?_)
            refine a_go (by decide) (v_getI d_MO_finish_37 rfl rfl rfl ?_)
            refine a_go (by decide) (v_istore_n d_MO_finish_40 (by decide) ?_)
            refine a_go (by decide) (v_aload_n d_MO_finish_41 rfl ?_)
            refine a_go (by decide) (v_iload_n d_MO_finish_42 rfl ?_)
            refine a_go (by decide) (v_aload_n d_MO_finish_43 rfl ?_)
            refine a_go (by decide) (v_getR d_MO_finish_44 rfl rfl rfl ?_)
            refine a_go (by decide) (v_iconst d_MO_finish_47 ki_0 ?_)
            refine a_go (by decide) (v_callV d_MO_finish_48 rfl (mm_spl 4 rfl) rfl (Nat.le_of_ble_eq_true rfl) rfl ?_)
            have o3 := And.left hok
            replace hok := And.right hok
            refine (i_m_bodyOf rfl o3 ?_)
            refine a_go (by decide) (v_aload_n d_MO_finish_51 rfl ?_)
            refine a_go (by decide) (v_aload_n d_MO_finish_52 rfl ?_)
            refine a_go (by decide) (v_getR d_MO_finish_53 rfl rfl rfl ?_)
            refine a_go (by decide) (v_bipush d_MO_finish_56 kb_20 ?_)
            refine a_go (by decide) (v_bipush d_MO_finish_58 kb_8 ?_)
            refine a_go (by decide) (v_callV d_MO_finish_60 rfl (mm_spl 4 rfl) rfl (Nat.le_of_ble_eq_true rfl) rfl ?_)
            have o4 := And.left hok
            replace hok := And.right hok
            refine (i_m_read rfl o4 ?_)
            refine a_go (by decide) (v_lcmp d_MO_finish_63 ?_)
            refine a_go (by decide) (v_if_eq d_MO_finish_64 (t := 75) (by decide) (fun c5 => ?_) (fun c5 => ?_))
            · skip
              replace hok := mm_okp hok c5
              refine a_go (by decide) (v_iconst d_MO_finish_75 ki_0 ?_)
              refine a_go (by decide) (v_istore_n d_MO_finish_76 (by decide) ?_)
              refine a_cut (by decide) ⟨rfl, _, [(0, _), (1, _), (2, _)], (mm_all_c rfl (mm_all_c rfl (mm_all_c rfl (mm_all_n)))), ⟨rfl, _, _, _, rfl, rfl, hok, (mm_mvVS hk (mm_ifp c1 (mm_ifn c2 (mm_ifn c3 (mm_ifn c4 (mm_ifp c5 rfl))))))⟩⟩
            · skip
              replace hok := mm_okn hok c5
              refine a_go (by decide) (v_aload_n d_MO_finish_67 rfl ?_)
              refine a_go (by decide) (v_iconst d_MO_finish_68 ki_m1 ?_)
              refine a_go (by decide) (v_putI d_MO_finish_69 rfl rfl rfl ?_)
              refine a_go (by decide) (v_bipush d_MO_finish_72 kb_m105 ?_)
              refine a_go (by decide) (v_ireturn d_MO_finish_74 rfl rfl ?_)
              exact mm_fiVS hk (mm_ifp c1 (mm_ifn c2 (mm_ifn c3 (mm_ifn c4 (mm_ifn c5 rfl)))))
          · skip
            replace hok := mm_okp hok c4
            refine a_go (by decide) (v_bipush d_MO_finish_33 kb_m103 ?_)
            refine a_go (by decide) (v_ireturn d_MO_finish_35 rfl rfl ?_)
            exact mm_fiVS hk (mm_ifp c1 (mm_ifn c2 (mm_ifn c3 (mm_ifp c4 rfl))))
    · skip
      replace hok := mm_okn hok c1
      refine a_go (by decide) (v_bipush d_MO_finish_7 kb_m100 ?_)
      refine a_go (by decide) (v_ireturn d_MO_finish_9 rfl rfl ?_)
      exact mm_fiVS hk (mm_ifn c1 rfl)
  · rintro as x0 K - k pc lv x - hinv
    obtain ⟨rfl, f, u1, u2, hkf, rfl, hok, hk⟩ := hinv
    cases f with
    | zero => exact False.elim hok
    | succ k =>
      subst hkf
      refine ⟨900, ?_⟩
      refine v_iload_n d_MO_finish_77 rfl ?_
      refine a_go (by decide) (v_bipush d_MO_finish_78 kb_64 ?_)
      refine a_go (by decide) (v_icmp_ge d_MO_finish_80 (t := 110) (by decide) (fun c6 => ?_) (fun c6 => ?_))
      · skip
        replace hok := mm_okp hok c6
        refine a_go (by decide) (v_aload_n d_MO_finish_110 rfl ?_)
        refine a_go (by decide) (v_bipush d_MO_finish_111 kb_m2 ?_)
        refine a_go (by decide) (v_iload_n d_MO_finish_113 rfl ?_)
        refine a_go (by decide) (v_iconst d_MO_finish_114 ki_3 ?_)
        refine a_go (by decide) (v_bipush d_MO_finish_115 kb_m2 ?_)
        refine a_go (by decide) (v_ldc2 d_MO_finish_117 rfl ?_)
        refine a_go (by decide) (v_callV d_MO_finish_120 rfl (mm_spl 6 rfl) rfl (Nat.le_of_ble_eq_true rfl) rfl ?_)
        have o5 := And.left hok
        replace hok := And.right hok
        refine (i_m_appended o5 ?_)
        refine a_go (by decide) (v_if_ne d_MO_finish_123 (t := 129) (by decide) (fun c7 => ?_) (fun c7 => ?_))
        · skip
          replace hok := mm_okn hok c7
          refine a_go (by decide) (v_aload_n d_MO_finish_129 rfl ?_)
          refine a_go (by decide) (v_iconst d_MO_finish_130 ki_m1 ?_)
          refine a_go (by decide) (v_putI d_MO_finish_131 rfl rfl rfl ?_)
          refine a_go (by decide) (v_aload_n d_MO_finish_134 rfl ?_)
          refine a_go (by decide) (v_getR d_MO_finish_135 rfl rfl rfl ?_)
          refine a_go (by decide) (v_bipush d_MO_finish_138 kb_6 ?_)
          refine a_go (by decide) (v_dup2 d_MO_finish_140 rfl rfl ?_)
          have o6 := And.left hok
          replace hok := And.right hok
          refine a_go (by decide) (v_iaload d_MO_finish_141 (by decide) rfl o6 ?_)
          refine a_go (by decide) (v_iconst d_MO_finish_142 ki_1 ?_)
          refine a_go (by decide) (v_iadd d_MO_finish_143 ?_)
          have o7 := And.left hok
          replace hok := And.right hok
          refine a_go (by decide) (v_iastore d_MO_finish_144 rfl o7 ?_)
          refine a_go (by decide) (v_iload_n d_MO_finish_145 rfl ?_)
          refine a_go (by decide) (v_ireturn d_MO_finish_146 rfl rfl ?_)
          exact mm_fiVS hk (mm_ifp c6 (mm_ifn c7 rfl))
        · skip
          replace hok := mm_okp hok c7
          refine a_go (by decide) (v_bipush d_MO_finish_126 kb_m106 ?_)
          refine a_go (by decide) (v_ireturn d_MO_finish_128 rfl rfl ?_)
          exact mm_fiVS hk (mm_ifp c6 (mm_ifp c7 rfl))
      · skip
        replace hok := mm_okn hok c6
        refine a_go (by decide) (v_aload_n d_MO_finish_83 rfl ?_)
        refine a_go (by decide) (v_iload_n d_MO_finish_84 rfl ?_)
        refine a_go (by decide) (v_callS d_MO_finish_85 rfl (mm_spl 1 rfl) rfl (Nat.le_of_ble_eq_true rfl) ?_)
        refine (i_m_headOf ?_)
        refine a_go (by decide) (v_iload_n d_MO_finish_88 rfl ?_)
        refine a_go (by decide) (v_iadd d_MO_finish_89 ?_)
        refine a_go (by decide) (v_aload_n d_MO_finish_90 rfl ?_)
        refine a_go (by decide) (v_getR d_MO_finish_91 rfl rfl rfl ?_)
        refine a_go (by decide) (v_iload_n d_MO_finish_94 rfl ?_)
        refine a_go (by decide) (v_callV d_MO_finish_95 rfl (mm_spl 4 rfl) rfl (Nat.le_of_ble_eq_true rfl) rfl ?_)
        have o8 := And.left hok
        replace hok := And.right hok
        refine (i_m_programmed rfl o8 ?_)
        refine a_go (by decide) (v_if_ne d_MO_finish_98 (t := 104) (by decide) (fun c8 => ?_) (fun c8 => ?_))
        · skip
          replace hok := mm_okn hok c8
          refine a_go (by decide) (v_iinc d_MO_finish_104 (by decide) rfl ki_16 ?_)
          refine a_go (by decide) (v_goto d_MO_finish_107 (t := 77) (by decide) ?_)
          refine a_cut (by decide) ⟨rfl, _, [(0, _), (1, _), (2, _)], ?_, (mm_all_c rfl (mm_all_c rfl (mm_all_c rfl (mm_all_n)))), ⟨rfl, _, _, _, rfl, rfl, hok, (mm_mvVS hk (mm_ifn c6 (mm_ifn c8 rfl)))⟩⟩
          exact Nat.lt_succ_self _
        · skip
          replace hok := mm_okp hok c8
          refine a_go (by decide) (v_bipush d_MO_finish_101 kb_m106 ?_)
          refine a_go (by decide) (v_ireturn d_MO_finish_103 rfl rfl ?_)
          exact mm_fiVS hk (mm_ifn c6 (mm_ifp c8 rfl))
-- TwoSlotsModel.booted()Z
def e_m_booted (x : mm_S) : Int32 × mm_S :=
  let x1 := mm_setA x 13 (upd (x.2.2 13) (Int32.toNatClampNeg (3 : Int32)) ((x.2.2 13 (Int32.toNatClampNeg (3 : Int32))) + (1 : Int32)))
  let x2 := mm_setI x1 106 (-1 : Int32)
  let x3 := mm_setI x2 103 (-1 : Int32)
  let x4 := mm_setI x3 104 (0 : Int32)
  let y5 := e_m_newest x4
  if y5 = (-1 : Int32) then
    ((1 : Int32), x4)
  else
    let y6 := x4.2.2 10 (Int32.toNatClampNeg (y5 + (5 : Int32)))
    let y7 := x4.2.2 10 (Int32.toNatClampNeg (y5 + (6 : Int32)))
    if (e_m_isGood y6 x4) = (0 : Int32) then
      if y6 = (255 : Int32) then
        let y8 := e_m_activeSlot x4
        if (e_m_isGood y8 x4) = (0 : Int32) then
          if (e_m_isGood (e_m_otherOf y8 x4) x4) = (0 : Int32) then
            ((1 : Int32), x4)
          else
            let q9 := e_m_appended (e_m_otherOf y8 x4) (-2 : Int32) (-2 : Int32) (-2 : Int32) (-2 : Int64) x4
            if q9.1 = (0 : Int32) then
              ((0 : Int32), q9.2)
            else
              let x10 := mm_setI q9.2 103 (e_m_otherOf y8 q9.2)
              ((1 : Int32), x10)
        else
          let x11 := mm_setI x4 103 y8
          ((1 : Int32), x11)
      else
        let q12 := e_m_appended (-2 : Int32) (255 : Int32) (0 : Int32) (-2 : Int32) (-2 : Int64) x4
        if q12.1 = (0 : Int32) then
          ((0 : Int32), q12.2)
        else
          let y13 := e_m_activeSlot q12.2
          if (e_m_isGood y13 q12.2) = (0 : Int32) then
            if (e_m_isGood (e_m_otherOf y13 q12.2) q12.2) = (0 : Int32) then
              ((1 : Int32), q12.2)
            else
              let q14 := e_m_appended (e_m_otherOf y13 q12.2) (-2 : Int32) (-2 : Int32) (-2 : Int32) (-2 : Int64) q12.2
              if q14.1 = (0 : Int32) then
                ((0 : Int32), q14.2)
              else
                let x15 := mm_setI q14.2 103 (e_m_otherOf y13 q14.2)
                ((1 : Int32), x15)
          else
            let x16 := mm_setI q12.2 103 y13
            ((1 : Int32), x16)
    else
      if y7 ≤ (0 : Int32) then
        if y6 = (255 : Int32) then
          let y17 := e_m_activeSlot x4
          if (e_m_isGood y17 x4) = (0 : Int32) then
            if (e_m_isGood (e_m_otherOf y17 x4) x4) = (0 : Int32) then
              ((1 : Int32), x4)
            else
              let q18 := e_m_appended (e_m_otherOf y17 x4) (-2 : Int32) (-2 : Int32) (-2 : Int32) (-2 : Int64) x4
              if q18.1 = (0 : Int32) then
                ((0 : Int32), q18.2)
              else
                let x19 := mm_setI q18.2 103 (e_m_otherOf y17 q18.2)
                ((1 : Int32), x19)
          else
            let x20 := mm_setI x4 103 y17
            ((1 : Int32), x20)
        else
          let q21 := e_m_appended (-2 : Int32) (255 : Int32) (0 : Int32) (-2 : Int32) (-2 : Int64) x4
          if q21.1 = (0 : Int32) then
            ((0 : Int32), q21.2)
          else
            let y22 := e_m_activeSlot q21.2
            if (e_m_isGood y22 q21.2) = (0 : Int32) then
              if (e_m_isGood (e_m_otherOf y22 q21.2) q21.2) = (0 : Int32) then
                ((1 : Int32), q21.2)
              else
                let q23 := e_m_appended (e_m_otherOf y22 q21.2) (-2 : Int32) (-2 : Int32) (-2 : Int32) (-2 : Int64) q21.2
                if q23.1 = (0 : Int32) then
                  ((0 : Int32), q23.2)
                else
                  let x24 := mm_setI q23.2 103 (e_m_otherOf y22 q23.2)
                  ((1 : Int32), x24)
            else
              let x25 := mm_setI q21.2 103 y22
              ((1 : Int32), x25)
      else
        let q26 := e_m_appended (-2 : Int32) (-2 : Int32) (y7 - (1 : Int32)) (-2 : Int32) (-2 : Int64) x4
        if q26.1 = (0 : Int32) then
          ((0 : Int32), q26.2)
        else
          let x27 := mm_setI q26.2 103 y6
          let x28 := mm_setI x27 104 (20 : Int32)
          let x29 := mm_setA x28 13 (upd (x28.2.2 13) (Int32.toNatClampNeg (4 : Int32)) ((x28.2.2 13 (Int32.toNatClampNeg (4 : Int32))) + (1 : Int32)))
          ((1 : Int32), x29)
def ok_m_booted (x : mm_S) : Prop := (vp_in (3 : Int32) 7) ∧ ((vp_in (3 : Int32) 7) ∧ (let x1 := mm_setA x 13 (upd (x.2.2 13) (Int32.toNatClampNeg (3 : Int32)) ((x.2.2 13 (Int32.toNatClampNeg (3 : Int32))) + (1 : Int32))); let x2 := mm_setI x1 106 (-1 : Int32); let x3 := mm_setI x2 103 (-1 : Int32); let x4 := mm_setI x3 104 (0 : Int32); (ok_m_newest  x4) ∧ (let y5 := e_m_newest x4; if y5 = (-1 : Int32) then (True) else ((vp_in (y5 + (5 : Int32)) 4096) ∧ (let y6 := x4.2.2 10 (Int32.toNatClampNeg (y5 + (5 : Int32))); (vp_in (y5 + (6 : Int32)) 4096) ∧ (let y7 := x4.2.2 10 (Int32.toNatClampNeg (y5 + (6 : Int32))); (ok_m_isGood y6 x4) ∧ (if (e_m_isGood y6 x4) = (0 : Int32) then (if y6 = (255 : Int32) then ((ok_m_activeSlot  x4) ∧ (let y8 := e_m_activeSlot x4; (ok_m_isGood y8 x4) ∧ (if (e_m_isGood y8 x4) = (0 : Int32) then ((ok_m_isGood (e_m_otherOf y8 x4) x4) ∧ (if (e_m_isGood (e_m_otherOf y8 x4) x4) = (0 : Int32) then (True) else ((ok_m_appended (e_m_otherOf y8 x4) (-2 : Int32) (-2 : Int32) (-2 : Int32) (-2 : Int64) x4) ∧ (let q9 := e_m_appended (e_m_otherOf y8 x4) (-2 : Int32) (-2 : Int32) (-2 : Int32) (-2 : Int64) x4; if q9.1 = (0 : Int32) then (True) else (let x10 := mm_setI q9.2 103 (e_m_otherOf y8 q9.2); True))))) else (let x11 := mm_setI x4 103 y8; True)))) else ((ok_m_appended (-2 : Int32) (255 : Int32) (0 : Int32) (-2 : Int32) (-2 : Int64) x4) ∧ (let q12 := e_m_appended (-2 : Int32) (255 : Int32) (0 : Int32) (-2 : Int32) (-2 : Int64) x4; if q12.1 = (0 : Int32) then (True) else ((ok_m_activeSlot  q12.2) ∧ (let y13 := e_m_activeSlot q12.2; (ok_m_isGood y13 q12.2) ∧ (if (e_m_isGood y13 q12.2) = (0 : Int32) then ((ok_m_isGood (e_m_otherOf y13 q12.2) q12.2) ∧ (if (e_m_isGood (e_m_otherOf y13 q12.2) q12.2) = (0 : Int32) then (True) else ((ok_m_appended (e_m_otherOf y13 q12.2) (-2 : Int32) (-2 : Int32) (-2 : Int32) (-2 : Int64) q12.2) ∧ (let q14 := e_m_appended (e_m_otherOf y13 q12.2) (-2 : Int32) (-2 : Int32) (-2 : Int32) (-2 : Int64) q12.2; if q14.1 = (0 : Int32) then (True) else (let x15 := mm_setI q14.2 103 (e_m_otherOf y13 q14.2); True))))) else (let x16 := mm_setI q12.2 103 y13; True))))))) else (if y7 ≤ (0 : Int32) then (if y6 = (255 : Int32) then ((ok_m_activeSlot  x4) ∧ (let y17 := e_m_activeSlot x4; (ok_m_isGood y17 x4) ∧ (if (e_m_isGood y17 x4) = (0 : Int32) then ((ok_m_isGood (e_m_otherOf y17 x4) x4) ∧ (if (e_m_isGood (e_m_otherOf y17 x4) x4) = (0 : Int32) then (True) else ((ok_m_appended (e_m_otherOf y17 x4) (-2 : Int32) (-2 : Int32) (-2 : Int32) (-2 : Int64) x4) ∧ (let q18 := e_m_appended (e_m_otherOf y17 x4) (-2 : Int32) (-2 : Int32) (-2 : Int32) (-2 : Int64) x4; if q18.1 = (0 : Int32) then (True) else (let x19 := mm_setI q18.2 103 (e_m_otherOf y17 q18.2); True))))) else (let x20 := mm_setI x4 103 y17; True)))) else ((ok_m_appended (-2 : Int32) (255 : Int32) (0 : Int32) (-2 : Int32) (-2 : Int64) x4) ∧ (let q21 := e_m_appended (-2 : Int32) (255 : Int32) (0 : Int32) (-2 : Int32) (-2 : Int64) x4; if q21.1 = (0 : Int32) then (True) else ((ok_m_activeSlot  q21.2) ∧ (let y22 := e_m_activeSlot q21.2; (ok_m_isGood y22 q21.2) ∧ (if (e_m_isGood y22 q21.2) = (0 : Int32) then ((ok_m_isGood (e_m_otherOf y22 q21.2) q21.2) ∧ (if (e_m_isGood (e_m_otherOf y22 q21.2) q21.2) = (0 : Int32) then (True) else ((ok_m_appended (e_m_otherOf y22 q21.2) (-2 : Int32) (-2 : Int32) (-2 : Int32) (-2 : Int64) q21.2) ∧ (let q23 := e_m_appended (e_m_otherOf y22 q21.2) (-2 : Int32) (-2 : Int32) (-2 : Int32) (-2 : Int64) q21.2; if q23.1 = (0 : Int32) then (True) else (let x24 := mm_setI q23.2 103 (e_m_otherOf y22 q23.2); True))))) else (let x25 := mm_setI q21.2 103 y22; True))))))) else ((ok_m_appended (-2 : Int32) (-2 : Int32) (y7 - (1 : Int32)) (-2 : Int32) (-2 : Int64) x4) ∧ (let q26 := e_m_appended (-2 : Int32) (-2 : Int32) (y7 - (1 : Int32)) (-2 : Int32) (-2 : Int64) x4; if q26.1 = (0 : Int32) then (True) else (let x27 := mm_setI q26.2 103 y6; let x28 := mm_setI x27 104 (20 : Int32); (vp_in (4 : Int32) 7) ∧ ((vp_in (4 : Int32) 7) ∧ (let x29 := mm_setA x28 13 (upd (x28.2.2 13) (Int32.toNatClampNeg (4 : Int32)) ((x28.2.2 13 (Int32.toNatClampNeg (4 : Int32))) + (1 : Int32))); True)))))))))))))
def S_m_booted : mm_P := fun as x K => as = [.ref 11] ∧ (ok_m_booted x) ∧ K (some (.int (e_m_booted x).1)) (e_m_booted x).2
theorem i_m_booted {x : mm_S} {K : mm_K} (hpre : (ok_m_booted x)) (hk : K (some (.int (e_m_booted x).1)) (e_m_booted x).2) : S_m_booted [.ref 11] x K := ⟨rfl, hpre, hk⟩
def G_m_booted : mm_G := (FT_MO, CI_MO, CJ_MO, mm_tb [(156, 1, S_m_otherOf)], mm_tb [(80, 1, 5, S_m_newest), (169, 2, 5, S_m_isGood), (153, 1, 5, S_m_activeSlot), (165, 6, 5, S_m_appended)], none)
def rm_m_booted : Room := { frames := 4, cells := 0, slots := 0, locals := 98 }
set_option maxHeartbeats 40000000 in
set_option maxRecDepth 10000 in
theorem c_m_booted (l : Launch) : mm_Con l NW CL TB LL y_MO_booted b_MO_booted 5 (some .boolean) rm_m_booted S_m_booted := by
  refine mm_con G_m_booted [] (fun _ _ _ _ _ _ _ => False) (by decide +kernel) tb_good LL_u nw_nest ?_ rfl ft_MO ci_MO cj_MO ?_ ?_ ?_ ?_
  · rintro as x K ⟨rfl, -⟩
    exact Nat.le_of_ble_eq_true rfl
  · exact mm_tb_e (List.forall_mem_cons.mpr ⟨mm_cst_i (c_m_otherOf l) (mm_cb_i rfl rfl (by decide) (by decide) tc_MO_otherOf ti_MO ⟨by decide, by decide, by decide +kernel⟩ (Or.inl tl_MO_156)) ts_MO_otherOf, fun _ h => absurd h List.not_mem_nil⟩)
  · exact mm_tb_e (List.forall_mem_cons.mpr ⟨mm_cvt_i (c_m_newest l) (mm_cb_i rfl rfl (by decide) (by decide) tc_MO_newest ti_MO ⟨by decide, by decide, by decide +kernel⟩ (Or.inl tl_MO_80)) rfl tv_MO_newest tx_MO_newest, List.forall_mem_cons.mpr ⟨mm_cvt_i (c_m_isGood l) (mm_cb_i rfl rfl (by decide) (by decide) tc_MO_isGood ti_MO ⟨by decide, by decide, by decide +kernel⟩ (Or.inl tl_MO_169)) rfl tv_MO_isGood tx_MO_isGood, List.forall_mem_cons.mpr ⟨mm_cvt_i (c_m_activeSlot l) (mm_cb_i rfl rfl (by decide) (by decide) tc_MO_activeSlot ti_MO ⟨by decide, by decide, by decide +kernel⟩ (Or.inl tl_MO_153)) rfl tv_MO_activeSlot tx_MO_activeSlot, List.forall_mem_cons.mpr ⟨mm_cvt_i (c_m_appended l) (mm_cb_i rfl rfl (by decide) (by decide) tc_MO_appended ti_MO ⟨by decide, by decide, by decide +kernel⟩ (Or.inl tl_MO_165)) rfl tv_MO_appended tx_MO_appended, fun _ h => absurd h List.not_mem_nil⟩⟩⟩⟩)
  · rintro as x K ⟨rfl, hok, hk⟩
    refine ⟨400, ?_⟩
    refine v_aload_n d_MO_booted_0 rfl ?_
    refine a_go (by decide) (v_getR d_MO_booted_1 rfl rfl rfl ?_)
    refine a_go (by decide) (v_iconst d_MO_booted_4 ki_3 ?_)
    refine a_go (by decide) (v_dup2 d_MO_booted_5 rfl rfl ?_)
    have o1 := And.left hok
    replace hok := And.right hok
    refine a_go (by decide) (v_iaload d_MO_booted_6 (by decide) rfl o1 ?_)
    refine a_go (by decide) (v_iconst d_MO_booted_7 ki_1 ?_)
    refine a_go (by decide) (v_iadd d_MO_booted_8 ?_)
    have o2 := And.left hok
    replace hok := And.right hok
    refine a_go (by decide) (v_iastore d_MO_booted_9 rfl o2 ?_)
    refine a_go (by decide) (v_aload_n d_MO_booted_10 rfl ?_)
    refine a_go (by decide) (v_iconst d_MO_booted_11 ki_m1 ?_)
    refine a_go (by decide) (v_putI d_MO_booted_12 rfl rfl rfl ?_)
    refine a_go (by decide) (v_aload_n d_MO_booted_15 rfl ?_)
    refine a_go (by decide) (v_iconst d_MO_booted_16 ki_m1 ?_)
    refine a_go (by decide) (v_putI d_MO_booted_17 rfl rfl rfl ?_)
    refine a_go (by decide) (v_aload_n d_MO_booted_20 rfl ?_)
    refine a_go (by decide) (v_iconst d_MO_booted_21 ki_0 ?_)
    refine a_go (by decide) (v_putI d_MO_booted_22 rfl rfl rfl ?_)
    refine a_go (by decide) (v_aload_n d_MO_booted_25 rfl ?_)
    refine a_go (by decide) (v_callV d_MO_booted_26 rfl (mm_spl 1 rfl) rfl (Nat.le_of_ble_eq_true rfl) rfl ?_)
    have o3 := And.left hok
    replace hok := And.right hok
    refine (i_m_newest o3 ?_)
    refine a_go (by decide) (v_istore_n d_MO_booted_29 (by decide) ?_)
    refine a_go (by decide) (v_iload_n d_MO_booted_30 rfl ?_)
    refine a_go (by decide) (v_iconst d_MO_booted_31 ki_m1 ?_)
    refine a_go (by decide) (v_icmp_ne d_MO_booted_32 (t := 37) (by decide) (fun c1 => ?_) (fun c1 => ?_))
    · skip
      replace hok := mm_okn hok c1
      refine a_go (by decide) (v_aload_n d_MO_booted_37 rfl ?_)
      refine a_go (by decide) (v_getR d_MO_booted_38 rfl rfl rfl ?_)
      refine a_go (by decide) (v_iload_n d_MO_booted_41 rfl ?_)
      refine a_go (by decide) (v_iconst d_MO_booted_42 ki_5 ?_)
      refine a_go (by decide) (v_iadd d_MO_booted_43 ?_)
      have o4 := And.left hok
      replace hok := And.right hok
      refine a_go (by decide) (v_iaload d_MO_booted_44 (by decide) rfl o4 ?_)
      refine a_go (by decide) (v_istore_n d_MO_booted_45 (by decide) ?_)
      refine a_go (by decide) (v_aload_n d_MO_booted_46 rfl ?_)
      refine a_go (by decide) (v_getR d_MO_booted_47 rfl rfl rfl ?_)
      refine a_go (by decide) (v_iload_n d_MO_booted_50 rfl ?_)
      refine a_go (by decide) (v_bipush d_MO_booted_51 kb_6 ?_)
      refine a_go (by decide) (v_iadd d_MO_booted_53 ?_)
      have o5 := And.left hok
      replace hok := And.right hok
      refine a_go (by decide) (v_iaload d_MO_booted_54 (by decide) rfl o5 ?_)
      refine a_go (by decide) (v_istore_n d_MO_booted_55 (by decide) ?_)
      refine a_go (by decide) (v_aload_n d_MO_booted_56 rfl ?_)
      refine a_go (by decide) (v_iload_n d_MO_booted_57 rfl ?_)
      refine a_go (by decide) (v_callV d_MO_booted_58 rfl (mm_spl 2 rfl) rfl (Nat.le_of_ble_eq_true rfl) rfl ?_)
      have o6 := And.left hok
      replace hok := And.right hok
      refine (i_m_isGood o6 ?_)
      refine a_go (by decide) (v_if_eq d_MO_booted_61 (t := 112) (by decide) (fun c2 => ?_) (fun c2 => ?_))
      · skip
        replace hok := mm_okp hok c2
        refine a_go (by decide) (v_iload_n d_MO_booted_112 rfl ?_)
        refine a_go (by decide) (v_sipush d_MO_booted_113 ks_255 ?_)
        refine a_go (by decide) (v_icmp_eq d_MO_booted_116 (t := 139) (by decide) (fun c3 => ?_) (fun c3 => ?_))
        · skip
          replace hok := mm_okp hok c3
          refine a_go (by decide) (v_aload_n d_MO_booted_139 rfl ?_)
          refine a_go (by decide) (v_callV d_MO_booted_140 rfl (mm_spl 1 rfl) rfl (Nat.le_of_ble_eq_true rfl) rfl ?_)
          have o7 := And.left hok
          replace hok := And.right hok
          refine (i_m_activeSlot o7 ?_)
          refine a_go (by decide) (v_istore d_MO_booted_143 (by decide) ?_)
          refine a_go (by decide) (v_aload_n d_MO_booted_145 rfl ?_)
          refine a_go (by decide) (v_iload d_MO_booted_146 rfl ?_)
          refine a_go (by decide) (v_callV d_MO_booted_148 rfl (mm_spl 2 rfl) rfl (Nat.le_of_ble_eq_true rfl) rfl ?_)
          have o8 := And.left hok
          replace hok := And.right hok
          refine (i_m_isGood o8 ?_)
          refine a_go (by decide) (v_if_eq d_MO_booted_151 (t := 163) (by decide) (fun c4 => ?_) (fun c4 => ?_))
          · skip
            replace hok := mm_okp hok c4
            refine a_go (by decide) (v_aload_n d_MO_booted_163 rfl ?_)
            refine a_go (by decide) (v_iload d_MO_booted_164 rfl ?_)
            refine a_go (by decide) (v_callS d_MO_booted_166 rfl (mm_spl 1 rfl) rfl (Nat.le_of_ble_eq_true rfl) ?_)
            refine (i_m_otherOf ?_)
            refine a_go (by decide) (v_callV d_MO_booted_169 rfl (mm_spl 2 rfl) rfl (Nat.le_of_ble_eq_true rfl) rfl ?_)
            have o9 := And.left hok
            replace hok := And.right hok
            refine (i_m_isGood o9 ?_)
            refine a_go (by decide) (v_if_eq d_MO_booted_172 (t := 207) (by decide) (fun c5 => ?_) (fun c5 => ?_))
            · skip
              replace hok := mm_okp hok c5
              refine a_go (by decide) (v_iconst d_MO_booted_207 ki_1 ?_)
              refine a_go (by decide) (v_zreturn d_MO_booted_208 rfl (by decide) ?_)
              exact mm_fiVS hk (mm_ifn c1 (mm_ifp c2 (mm_ifp c3 (mm_ifp c4 (mm_ifp c5 rfl)))))
            · skip
              replace hok := mm_okn hok c5
              refine a_go (by decide) (v_aload_n d_MO_booted_175 rfl ?_)
              refine a_go (by decide) (v_iload d_MO_booted_176 rfl ?_)
              refine a_go (by decide) (v_callS d_MO_booted_178 rfl (mm_spl 1 rfl) rfl (Nat.le_of_ble_eq_true rfl) ?_)
              refine (i_m_otherOf ?_)
              refine a_go (by decide) (v_bipush d_MO_booted_181 kb_m2 ?_)
              refine a_go (by decide) (v_bipush d_MO_booted_183 kb_m2 ?_)
              refine a_go (by decide) (v_bipush d_MO_booted_185 kb_m2 ?_)
              refine a_go (by decide) (v_ldc2 d_MO_booted_187 rfl ?_)
              refine a_go (by decide) (v_callV d_MO_booted_190 rfl (mm_spl 6 rfl) rfl (Nat.le_of_ble_eq_true rfl) rfl ?_)
              have o10 := And.left hok
              replace hok := And.right hok
              refine (i_m_appended o10 ?_)
              refine a_go (by decide) (v_if_ne d_MO_booted_193 (t := 198) (by decide) (fun c6 => ?_) (fun c6 => ?_))
              · skip
                replace hok := mm_okn hok c6
                refine a_go (by decide) (v_aload_n d_MO_booted_198 rfl ?_)
                refine a_go (by decide) (v_iload d_MO_booted_199 rfl ?_)
                refine a_go (by decide) (v_callS d_MO_booted_201 rfl (mm_spl 1 rfl) rfl (Nat.le_of_ble_eq_true rfl) ?_)
                refine (i_m_otherOf ?_)
                refine a_go (by decide) (v_putI d_MO_booted_204 rfl rfl rfl ?_)
                refine a_go (by decide) (v_iconst d_MO_booted_207 ki_1 ?_)
                refine a_go (by decide) (v_zreturn d_MO_booted_208 rfl (by decide) ?_)
                exact mm_fiVS hk (mm_ifn c1 (mm_ifp c2 (mm_ifp c3 (mm_ifp c4 (mm_ifn c5 (mm_ifn c6 rfl))))))
              · skip
                replace hok := mm_okp hok c6
                refine a_go (by decide) (v_iconst d_MO_booted_196 ki_0 ?_)
                refine a_go (by decide) (v_zreturn d_MO_booted_197 rfl (by decide) ?_)
                exact mm_fiVS hk (mm_ifn c1 (mm_ifp c2 (mm_ifp c3 (mm_ifp c4 (mm_ifn c5 (mm_ifp c6 rfl))))))
          · skip
            replace hok := mm_okn hok c4
            refine a_go (by decide) (v_aload_n d_MO_booted_154 rfl ?_)
            refine a_go (by decide) (v_iload d_MO_booted_155 rfl ?_)
            refine a_go (by decide) (v_putI d_MO_booted_157 rfl rfl rfl ?_)
            refine a_go (by decide) (v_goto d_MO_booted_160 (t := 207) (by decide) ?_)
            refine a_go (by decide) (v_iconst d_MO_booted_207 ki_1 ?_)
            refine a_go (by decide) (v_zreturn d_MO_booted_208 rfl (by decide) ?_)
            exact mm_fiVS hk (mm_ifn c1 (mm_ifp c2 (mm_ifp c3 (mm_ifn c4 rfl))))
        · skip
          replace hok := mm_okn hok c3
          refine a_go (by decide) (v_aload_n d_MO_booted_119 rfl ?_)
          refine a_go (by decide) (v_bipush d_MO_booted_120 kb_m2 ?_)
          refine a_go (by decide) (v_sipush d_MO_booted_122 ks_255 ?_)
          refine a_go (by decide) (v_iconst d_MO_booted_125 ki_0 ?_)
          refine a_go (by decide) (v_bipush d_MO_booted_126 kb_m2 ?_)
          refine a_go (by decide) (v_ldc2 d_MO_booted_128 rfl ?_)
          refine a_go (by decide) (v_callV d_MO_booted_131 rfl (mm_spl 6 rfl) rfl (Nat.le_of_ble_eq_true rfl) rfl ?_)
          have o11 := And.left hok
          replace hok := And.right hok
          refine (i_m_appended o11 ?_)
          refine a_go (by decide) (v_if_ne d_MO_booted_134 (t := 139) (by decide) (fun c7 => ?_) (fun c7 => ?_))
          · skip
            replace hok := mm_okn hok c7
            refine a_go (by decide) (v_aload_n d_MO_booted_139 rfl ?_)
            refine a_go (by decide) (v_callV d_MO_booted_140 rfl (mm_spl 1 rfl) rfl (Nat.le_of_ble_eq_true rfl) rfl ?_)
            have o12 := And.left hok
            replace hok := And.right hok
            refine (i_m_activeSlot o12 ?_)
            refine a_go (by decide) (v_istore d_MO_booted_143 (by decide) ?_)
            refine a_go (by decide) (v_aload_n d_MO_booted_145 rfl ?_)
            refine a_go (by decide) (v_iload d_MO_booted_146 rfl ?_)
            refine a_go (by decide) (v_callV d_MO_booted_148 rfl (mm_spl 2 rfl) rfl (Nat.le_of_ble_eq_true rfl) rfl ?_)
            have o13 := And.left hok
            replace hok := And.right hok
            refine (i_m_isGood o13 ?_)
            refine a_go (by decide) (v_if_eq d_MO_booted_151 (t := 163) (by decide) (fun c8 => ?_) (fun c8 => ?_))
            · skip
              replace hok := mm_okp hok c8
              refine a_go (by decide) (v_aload_n d_MO_booted_163 rfl ?_)
              refine a_go (by decide) (v_iload d_MO_booted_164 rfl ?_)
              refine a_go (by decide) (v_callS d_MO_booted_166 rfl (mm_spl 1 rfl) rfl (Nat.le_of_ble_eq_true rfl) ?_)
              refine (i_m_otherOf ?_)
              refine a_go (by decide) (v_callV d_MO_booted_169 rfl (mm_spl 2 rfl) rfl (Nat.le_of_ble_eq_true rfl) rfl ?_)
              have o14 := And.left hok
              replace hok := And.right hok
              refine (i_m_isGood o14 ?_)
              refine a_go (by decide) (v_if_eq d_MO_booted_172 (t := 207) (by decide) (fun c9 => ?_) (fun c9 => ?_))
              · skip
                replace hok := mm_okp hok c9
                refine a_go (by decide) (v_iconst d_MO_booted_207 ki_1 ?_)
                refine a_go (by decide) (v_zreturn d_MO_booted_208 rfl (by decide) ?_)
                exact mm_fiVS hk (mm_ifn c1 (mm_ifp c2 (mm_ifn c3 (mm_ifn c7 (mm_ifp c8 (mm_ifp c9 rfl))))))
              · skip
                replace hok := mm_okn hok c9
                refine a_go (by decide) (v_aload_n d_MO_booted_175 rfl ?_)
                refine a_go (by decide) (v_iload d_MO_booted_176 rfl ?_)
                refine a_go (by decide) (v_callS d_MO_booted_178 rfl (mm_spl 1 rfl) rfl (Nat.le_of_ble_eq_true rfl) ?_)
                refine (i_m_otherOf ?_)
                refine a_go (by decide) (v_bipush d_MO_booted_181 kb_m2 ?_)
                refine a_go (by decide) (v_bipush d_MO_booted_183 kb_m2 ?_)
                refine a_go (by decide) (v_bipush d_MO_booted_185 kb_m2 ?_)
                refine a_go (by decide) (v_ldc2 d_MO_booted_187 rfl ?_)
                refine a_go (by decide) (v_callV d_MO_booted_190 rfl (mm_spl 6 rfl) rfl (Nat.le_of_ble_eq_true rfl) rfl ?_)
                have o15 := And.left hok
                replace hok := And.right hok
                refine (i_m_appended o15 ?_)
                refine a_go (by decide) (v_if_ne d_MO_booted_193 (t := 198) (by decide) (fun c10 => ?_) (fun c10 => ?_))
                · skip
                  replace hok := mm_okn hok c10
                  refine a_go (by decide) (v_aload_n d_MO_booted_198 rfl ?_)
                  refine a_go (by decide) (v_iload d_MO_booted_199 rfl ?_)
                  refine a_go (by decide) (v_callS d_MO_booted_201 rfl (mm_spl 1 rfl) rfl (Nat.le_of_ble_eq_true rfl) ?_)
                  refine (i_m_otherOf ?_)
                  refine a_go (by decide) (v_putI d_MO_booted_204 rfl rfl rfl ?_)
                  refine a_go (by decide) (v_iconst d_MO_booted_207 ki_1 ?_)
                  refine a_go (by decide) (v_zreturn d_MO_booted_208 rfl (by decide) ?_)
                  exact mm_fiVS hk (mm_ifn c1 (mm_ifp c2 (mm_ifn c3 (mm_ifn c7 (mm_ifp c8 (mm_ifn c9 (mm_ifn c10 rfl)))))))
                · skip
                  replace hok := mm_okp hok c10
                  refine a_go (by decide) (v_iconst d_MO_booted_196 ki_0 ?_)
                  refine a_go (by decide) (v_zreturn d_MO_booted_197 rfl (by decide) ?_)
                  exact mm_fiVS hk (mm_ifn c1 (mm_ifp c2 (mm_ifn c3 (mm_ifn c7 (mm_ifp c8 (mm_ifn c9 (mm_ifp c10 rfl)))))))
            · skip
              replace hok := mm_okn hok c8
              refine a_go (by decide) (v_aload_n d_MO_booted_154 rfl ?_)
              refine a_go (by decide) (v_iload d_MO_booted_155 rfl ?_)
              refine a_go (by decide) (v_putI d_MO_booted_157 rfl rfl rfl ?_)
              refine a_go (by decide) (v_goto d_MO_booted_160 (t := 207) (by decide) ?_)
              refine a_go (by decide) (v_iconst d_MO_booted_207 ki_1 ?_)
              refine a_go (by decide) (v_zreturn d_MO_booted_208 rfl (by decide) ?_)
              exact mm_fiVS hk (mm_ifn c1 (mm_ifp c2 (mm_ifn c3 (mm_ifn c7 (mm_ifn c8 rfl)))))
          · skip
            replace hok := mm_okp hok c7
            refine a_go (by decide) (v_iconst d_MO_booted_137 ki_0 ?_)
            refine a_go (by decide) (v_zreturn d_MO_booted_138 rfl (by decide) ?_)
            exact mm_fiVS hk (mm_ifn c1 (mm_ifp c2 (mm_ifn c3 (mm_ifp c7 rfl))))
      · skip
        replace hok := mm_okn hok c2
        refine a_go (by decide) (v_iload_n d_MO_booted_64 rfl ?_)
        refine a_go (by decide) (v_if_le d_MO_booted_65 (t := 112) (by decide) (fun c11 => ?_) (fun c11 => ?_))
        · skip
          replace hok := mm_okp hok c11
          refine a_go (by decide) (v_iload_n d_MO_booted_112 rfl ?_)
          refine a_go (by decide) (v_sipush d_MO_booted_113 ks_255 ?_)
          refine a_go (by decide) (v_icmp_eq d_MO_booted_116 (t := 139) (by decide) (fun c12 => ?_) (fun c12 => ?_))
          · skip
            replace hok := mm_okp hok c12
            refine a_go (by decide) (v_aload_n d_MO_booted_139 rfl ?_)
            refine a_go (by decide) (v_callV d_MO_booted_140 rfl (mm_spl 1 rfl) rfl (Nat.le_of_ble_eq_true rfl) rfl ?_)
            have o16 := And.left hok
            replace hok := And.right hok
            refine (i_m_activeSlot o16 ?_)
            refine a_go (by decide) (v_istore d_MO_booted_143 (by decide) ?_)
            refine a_go (by decide) (v_aload_n d_MO_booted_145 rfl ?_)
            refine a_go (by decide) (v_iload d_MO_booted_146 rfl ?_)
            refine a_go (by decide) (v_callV d_MO_booted_148 rfl (mm_spl 2 rfl) rfl (Nat.le_of_ble_eq_true rfl) rfl ?_)
            have o17 := And.left hok
            replace hok := And.right hok
            refine (i_m_isGood o17 ?_)
            refine a_go (by decide) (v_if_eq d_MO_booted_151 (t := 163) (by decide) (fun c13 => ?_) (fun c13 => ?_))
            · skip
              replace hok := mm_okp hok c13
              refine a_go (by decide) (v_aload_n d_MO_booted_163 rfl ?_)
              refine a_go (by decide) (v_iload d_MO_booted_164 rfl ?_)
              refine a_go (by decide) (v_callS d_MO_booted_166 rfl (mm_spl 1 rfl) rfl (Nat.le_of_ble_eq_true rfl) ?_)
              refine (i_m_otherOf ?_)
              refine a_go (by decide) (v_callV d_MO_booted_169 rfl (mm_spl 2 rfl) rfl (Nat.le_of_ble_eq_true rfl) rfl ?_)
              have o18 := And.left hok
              replace hok := And.right hok
              refine (i_m_isGood o18 ?_)
              refine a_go (by decide) (v_if_eq d_MO_booted_172 (t := 207) (by decide) (fun c14 => ?_) (fun c14 => ?_))
              · skip
                replace hok := mm_okp hok c14
                refine a_go (by decide) (v_iconst d_MO_booted_207 ki_1 ?_)
                refine a_go (by decide) (v_zreturn d_MO_booted_208 rfl (by decide) ?_)
                exact mm_fiVS hk (mm_ifn c1 (mm_ifn c2 (mm_ifp c11 (mm_ifp c12 (mm_ifp c13 (mm_ifp c14 rfl))))))
              · skip
                replace hok := mm_okn hok c14
                refine a_go (by decide) (v_aload_n d_MO_booted_175 rfl ?_)
                refine a_go (by decide) (v_iload d_MO_booted_176 rfl ?_)
                refine a_go (by decide) (v_callS d_MO_booted_178 rfl (mm_spl 1 rfl) rfl (Nat.le_of_ble_eq_true rfl) ?_)
                refine (i_m_otherOf ?_)
                refine a_go (by decide) (v_bipush d_MO_booted_181 kb_m2 ?_)
                refine a_go (by decide) (v_bipush d_MO_booted_183 kb_m2 ?_)
                refine a_go (by decide) (v_bipush d_MO_booted_185 kb_m2 ?_)
                refine a_go (by decide) (v_ldc2 d_MO_booted_187 rfl ?_)
                refine a_go (by decide) (v_callV d_MO_booted_190 rfl (mm_spl 6 rfl) rfl (Nat.le_of_ble_eq_true rfl) rfl ?_)
                have o19 := And.left hok
                replace hok := And.right hok
                refine (i_m_appended o19 ?_)
                refine a_go (by decide) (v_if_ne d_MO_booted_193 (t := 198) (by decide) (fun c15 => ?_) (fun c15 => ?_))
                · skip
                  replace hok := mm_okn hok c15
                  refine a_go (by decide) (v_aload_n d_MO_booted_198 rfl ?_)
                  refine a_go (by decide) (v_iload d_MO_booted_199 rfl ?_)
                  refine a_go (by decide) (v_callS d_MO_booted_201 rfl (mm_spl 1 rfl) rfl (Nat.le_of_ble_eq_true rfl) ?_)
                  refine (i_m_otherOf ?_)
                  refine a_go (by decide) (v_putI d_MO_booted_204 rfl rfl rfl ?_)
                  refine a_go (by decide) (v_iconst d_MO_booted_207 ki_1 ?_)
                  refine a_go (by decide) (v_zreturn d_MO_booted_208 rfl (by decide) ?_)
                  exact mm_fiVS hk (mm_ifn c1 (mm_ifn c2 (mm_ifp c11 (mm_ifp c12 (mm_ifp c13 (mm_ifn c14 (mm_ifn c15 rfl)))))))
                · skip
                  replace hok := mm_okp hok c15
                  refine a_go (by decide) (v_iconst d_MO_booted_196 ki_0 ?_)
                  refine a_go (by decide) (v_zreturn d_MO_booted_197 rfl (by decide) ?_)
                  exact mm_fiVS hk (mm_ifn c1 (mm_ifn c2 (mm_ifp c11 (mm_ifp c12 (mm_ifp c13 (mm_ifn c14 (mm_ifp c15 rfl)))))))
            · skip
              replace hok := mm_okn hok c13
              refine a_go (by decide) (v_aload_n d_MO_booted_154 rfl ?_)
              refine a_go (by decide) (v_iload d_MO_booted_155 rfl ?_)
              refine a_go (by decide) (v_putI d_MO_booted_157 rfl rfl rfl ?_)
              refine a_go (by decide) (v_goto d_MO_booted_160 (t := 207) (by decide) ?_)
              refine a_go (by decide) (v_iconst d_MO_booted_207 ki_1 ?_)
              refine a_go (by decide) (v_zreturn d_MO_booted_208 rfl (by decide) ?_)
              exact mm_fiVS hk (mm_ifn c1 (mm_ifn c2 (mm_ifp c11 (mm_ifp c12 (mm_ifn c13 rfl)))))
          · skip
            replace hok := mm_okn hok c12
            refine a_go (by decide) (v_aload_n d_MO_booted_119 rfl ?_)
            refine a_go (by decide) (v_bipush d_MO_booted_120 kb_m2 ?_)
            refine a_go (by decide) (v_sipush d_MO_booted_122 ks_255 ?_)
            refine a_go (by decide) (v_iconst d_MO_booted_125 ki_0 ?_)
            refine a_go (by decide) (v_bipush d_MO_booted_126 kb_m2 ?_)
            refine a_go (by decide) (v_ldc2 d_MO_booted_128 rfl ?_)
            refine a_go (by decide) (v_callV d_MO_booted_131 rfl (mm_spl 6 rfl) rfl (Nat.le_of_ble_eq_true rfl) rfl ?_)
            have o20 := And.left hok
            replace hok := And.right hok
            refine (i_m_appended o20 ?_)
            refine a_go (by decide) (v_if_ne d_MO_booted_134 (t := 139) (by decide) (fun c16 => ?_) (fun c16 => ?_))
            · skip
              replace hok := mm_okn hok c16
              refine a_go (by decide) (v_aload_n d_MO_booted_139 rfl ?_)
              refine a_go (by decide) (v_callV d_MO_booted_140 rfl (mm_spl 1 rfl) rfl (Nat.le_of_ble_eq_true rfl) rfl ?_)
              have o21 := And.left hok
              replace hok := And.right hok
              refine (i_m_activeSlot o21 ?_)
              refine a_go (by decide) (v_istore d_MO_booted_143 (by decide) ?_)
              refine a_go (by decide) (v_aload_n d_MO_booted_145 rfl ?_)
              refine a_go (by decide) (v_iload d_MO_booted_146 rfl ?_)
              refine a_go (by decide) (v_callV d_MO_booted_148 rfl (mm_spl 2 rfl) rfl (Nat.le_of_ble_eq_true rfl) rfl ?_)
              have o22 := And.left hok
              replace hok := And.right hok
              refine (i_m_isGood o22 ?_)
              refine a_go (by decide) (v_if_eq d_MO_booted_151 (t := 163) (by decide) (fun c17 => ?_) (fun c17 => ?_))
              · skip
                replace hok := mm_okp hok c17
                refine a_go (by decide) (v_aload_n d_MO_booted_163 rfl ?_)
                refine a_go (by decide) (v_iload d_MO_booted_164 rfl ?_)
                refine a_go (by decide) (v_callS d_MO_booted_166 rfl (mm_spl 1 rfl) rfl (Nat.le_of_ble_eq_true rfl) ?_)
                refine (i_m_otherOf ?_)
                refine a_go (by decide) (v_callV d_MO_booted_169 rfl (mm_spl 2 rfl) rfl (Nat.le_of_ble_eq_true rfl) rfl ?_)
                have o23 := And.left hok
                replace hok := And.right hok
                refine (i_m_isGood o23 ?_)
                refine a_go (by decide) (v_if_eq d_MO_booted_172 (t := 207) (by decide) (fun c18 => ?_) (fun c18 => ?_))
                · skip
                  replace hok := mm_okp hok c18
                  refine a_go (by decide) (v_iconst d_MO_booted_207 ki_1 ?_)
                  refine a_go (by decide) (v_zreturn d_MO_booted_208 rfl (by decide) ?_)
                  exact mm_fiVS hk (mm_ifn c1 (mm_ifn c2 (mm_ifp c11 (mm_ifn c12 (mm_ifn c16 (mm_ifp c17 (mm_ifp c18 rfl)))))))
                · skip
                  replace hok := mm_okn hok c18
                  refine a_go (by decide) (v_aload_n d_MO_booted_175 rfl ?_)
                  refine a_go (by decide) (v_iload d_MO_booted_176 rfl ?_)
                  refine a_go (by decide) (v_callS d_MO_booted_178 rfl (mm_spl 1 rfl) rfl (Nat.le_of_ble_eq_true rfl) ?_)
                  refine (i_m_otherOf ?_)
                  refine a_go (by decide) (v_bipush d_MO_booted_181 kb_m2 ?_)
                  refine a_go (by decide) (v_bipush d_MO_booted_183 kb_m2 ?_)
                  refine a_go (by decide) (v_bipush d_MO_booted_185 kb_m2 ?_)
                  refine a_go (by decide) (v_ldc2 d_MO_booted_187 rfl ?_)
                  refine a_go (by decide) (v_callV d_MO_booted_190 rfl (mm_spl 6 rfl) rfl (Nat.le_of_ble_eq_true rfl) rfl ?_)
                  have o24 := And.left hok
                  replace hok := And.right hok
                  refine (i_m_appended o24 ?_)
                  refine a_go (by decide) (v_if_ne d_MO_booted_193 (t := 198) (by decide) (fun c19 => ?_) (fun c19 => ?_))
                  · skip
                    replace hok := mm_okn hok c19
                    refine a_go (by decide) (v_aload_n d_MO_booted_198 rfl ?_)
                    refine a_go (by decide) (v_iload d_MO_booted_199 rfl ?_)
                    refine a_go (by decide) (v_callS d_MO_booted_201 rfl (mm_spl 1 rfl) rfl (Nat.le_of_ble_eq_true rfl) ?_)
                    refine (i_m_otherOf ?_)
                    refine a_go (by decide) (v_putI d_MO_booted_204 rfl rfl rfl ?_)
                    refine a_go (by decide) (v_iconst d_MO_booted_207 ki_1 ?_)
                    refine a_go (by decide) (v_zreturn d_MO_booted_208 rfl (by decide) ?_)
                    exact mm_fiVS hk (mm_ifn c1 (mm_ifn c2 (mm_ifp c11 (mm_ifn c12 (mm_ifn c16 (mm_ifp c17 (mm_ifn c18 (mm_ifn c19 rfl))))))))
                  · skip
                    replace hok := mm_okp hok c19
                    refine a_go (by decide) (v_iconst d_MO_booted_196 ki_0 ?_)
                    refine a_go (by decide) (v_zreturn d_MO_booted_197 rfl (by decide) ?_)
                    exact mm_fiVS hk (mm_ifn c1 (mm_ifn c2 (mm_ifp c11 (mm_ifn c12 (mm_ifn c16 (mm_ifp c17 (mm_ifn c18 (mm_ifp c19 rfl))))))))
              · skip
                replace hok := mm_okn hok c17
                refine a_go (by decide) (v_aload_n d_MO_booted_154 rfl ?_)
                refine a_go (by decide) (v_iload d_MO_booted_155 rfl ?_)
                refine a_go (by decide) (v_putI d_MO_booted_157 rfl rfl rfl ?_)
                refine a_go (by decide) (v_goto d_MO_booted_160 (t := 207) (by decide) ?_)
                refine a_go (by decide) (v_iconst d_MO_booted_207 ki_1 ?_)
                refine a_go (by decide) (v_zreturn d_MO_booted_208 rfl (by decide) ?_)
                exact mm_fiVS hk (mm_ifn c1 (mm_ifn c2 (mm_ifp c11 (mm_ifn c12 (mm_ifn c16 (mm_ifn c17 rfl))))))
            · skip
              replace hok := mm_okp hok c16
              refine a_go (by decide) (v_iconst d_MO_booted_137 ki_0 ?_)
              refine a_go (by decide) (v_zreturn d_MO_booted_138 rfl (by decide) ?_)
              exact mm_fiVS hk (mm_ifn c1 (mm_ifn c2 (mm_ifp c11 (mm_ifn c12 (mm_ifp c16 rfl)))))
        · skip
          replace hok := mm_okn hok c11
          refine a_go (by decide) (v_aload_n d_MO_booted_68 rfl ?_)
          refine a_go (by decide) (v_bipush d_MO_booted_69 kb_m2 ?_)
          refine a_go (by decide) (v_bipush d_MO_booted_71 kb_m2 ?_)
          refine a_go (by decide) (v_iload_n d_MO_booted_73 rfl ?_)
          refine a_go (by decide) (v_iconst d_MO_booted_74 ki_1 ?_)
          refine a_go (by decide) (v_isub d_MO_booted_75 ?_)
          refine a_go (by decide) (v_bipush d_MO_booted_76 kb_m2 ?_)
          refine a_go (by decide) (v_ldc2 d_MO_booted_78 rfl ?_)
          refine a_go (by decide) (v_callV d_MO_booted_81 rfl (mm_spl 6 rfl) rfl (Nat.le_of_ble_eq_true rfl) rfl ?_)
          have o25 := And.left hok
          replace hok := And.right hok
          refine (i_m_appended o25 ?_)
          refine a_go (by decide) (v_if_ne d_MO_booted_84 (t := 89) (by decide) (fun c20 => ?_) (fun c20 => ?_))
          · skip
            replace hok := mm_okn hok c20
            refine a_go (by decide) (v_aload_n d_MO_booted_89 rfl ?_)
            refine a_go (by decide) (v_iload_n d_MO_booted_90 rfl ?_)
            refine a_go (by decide) (v_putI d_MO_booted_91 rfl rfl rfl ?_)
            refine a_go (by decide) (v_aload_n d_MO_booted_94 rfl ?_)
            refine a_go (by decide) (v_bipush d_MO_booted_95 kb_20 ?_)
            refine a_go (by decide) (v_putI d_MO_booted_97 rfl rfl rfl ?_)
            refine a_go (by decide) (v_aload_n d_MO_booted_100 rfl ?_)
            refine a_go (by decide) (v_getR d_MO_booted_101 rfl rfl rfl ?_)
            refine a_go (by decide) (v_iconst d_MO_booted_104 ki_4 ?_)
            refine a_go (by decide) (v_dup2 d_MO_booted_105 rfl rfl ?_)
            have o26 := And.left hok
            replace hok := And.right hok
            refine a_go (by decide) (v_iaload d_MO_booted_106 (by decide) rfl o26 ?_)
            refine a_go (by decide) (v_iconst d_MO_booted_107 ki_1 ?_)
            refine a_go (by decide) (v_iadd d_MO_booted_108 ?_)
            have o27 := And.left hok
            replace hok := And.right hok
            refine a_go (by decide) (v_iastore d_MO_booted_109 rfl o27 ?_)
            refine a_go (by decide) (v_iconst d_MO_booted_110 ki_1 ?_)
            refine a_go (by decide) (v_zreturn d_MO_booted_111 rfl (by decide) ?_)
            exact mm_fiVS hk (mm_ifn c1 (mm_ifn c2 (mm_ifn c11 (mm_ifn c20 rfl))))
          · skip
            replace hok := mm_okp hok c20
            refine a_go (by decide) (v_iconst d_MO_booted_87 ki_0 ?_)
            refine a_go (by decide) (v_zreturn d_MO_booted_88 rfl (by decide) ?_)
            exact mm_fiVS hk (mm_ifn c1 (mm_ifn c2 (mm_ifn c11 (mm_ifp c20 rfl))))
    · skip
      replace hok := mm_okp hok c1
      refine a_go (by decide) (v_iconst d_MO_booted_35 ki_1 ?_)
      refine a_go (by decide) (v_zreturn d_MO_booted_36 rfl (by decide) ?_)
      exact mm_fiVS hk (mm_ifp c1 rfl)
  · intro as x K _ k pc lv x' h
    cases h
