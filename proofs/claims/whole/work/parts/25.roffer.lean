-- TwoSlotsModel.isTrial()Z
def e_m_isTrial (x : mm_S) : Int32 :=
  if (x.1 103) = (-1 : Int32) then
    (0 : Int32)
  else
    if (x.1 104) ≤ (0 : Int32) then
      (0 : Int32)
    else
      (1 : Int32)
def S_m_isTrial : mm_P := fun as x K => as = [.ref 11] ∧ K (some (.int (e_m_isTrial x))) x
theorem i_m_isTrial {x : mm_S} {K : mm_K} (hk : K (some (.int (e_m_isTrial x))) x) : S_m_isTrial [.ref 11] x K := ⟨rfl, hk⟩
def G_m_isTrial : mm_G := (FT_MO, CI_MO, CJ_MO, mm_tb [], mm_tb [], none)
def rm_m_isTrial : Room := { frames := 0, cells := 0, slots := 0, locals := 0 }
set_option maxHeartbeats 40000000 in
set_option maxRecDepth 10000 in
theorem c_m_isTrial (l : Launch) : mm_Con l NW CL TB LL y_MO_isTrial b_MO_isTrial 1 (some .boolean) rm_m_isTrial S_m_isTrial := by
  refine mm_con G_m_isTrial [] (fun _ _ _ _ _ _ _ => False) (by decide +kernel) tb_good LL_u nw_nest ?_ rfl ft_MO ci_MO cj_MO ?_ ?_ ?_ ?_
  · rintro as x K ⟨rfl, -⟩
    exact Nat.le_of_ble_eq_true rfl
  · exact mm_tb_e (fun _ h => absurd h List.not_mem_nil)
  · exact mm_tb_e (fun _ h => absurd h List.not_mem_nil)
  · rintro as x K ⟨rfl, hk⟩
    refine ⟨400, ?_⟩
    refine v_aload_n d_MO_isTrial_0 rfl ?_
    refine a_go (by decide) (v_getI d_MO_isTrial_1 rfl rfl rfl ?_)
    refine a_go (by decide) (v_iconst d_MO_isTrial_4 ki_m1 ?_)
    refine a_go (by decide) (v_icmp_eq d_MO_isTrial_5 (t := 19) (by decide) (fun c1 => ?_) (fun c1 => ?_))
    · skip
      refine a_go (by decide) (v_iconst d_MO_isTrial_19 ki_0 ?_)
      refine a_go (by decide) (v_zreturn d_MO_isTrial_20 rfl (by decide) ?_)
      exact mm_fiV hk (mm_ifp c1 rfl)
    · skip
      refine a_go (by decide) (v_aload_n d_MO_isTrial_8 rfl ?_)
      refine a_go (by decide) (v_getI d_MO_isTrial_9 rfl rfl rfl ?_)
      refine a_go (by decide) (v_if_le d_MO_isTrial_12 (t := 19) (by decide) (fun c2 => ?_) (fun c2 => ?_))
      · skip
        refine a_go (by decide) (v_iconst d_MO_isTrial_19 ki_0 ?_)
        refine a_go (by decide) (v_zreturn d_MO_isTrial_20 rfl (by decide) ?_)
        exact mm_fiV hk (mm_ifn c1 (mm_ifp c2 rfl))
      · skip
        refine a_go (by decide) (v_iconst d_MO_isTrial_15 ki_1 ?_)
        refine a_go (by decide) (v_goto d_MO_isTrial_16 (t := 20) (by decide) ?_)
        refine a_go (by decide) (v_zreturn d_MO_isTrial_20 rfl (by decide) ?_)
        exact mm_fiV hk (mm_ifn c1 (mm_ifn c2 rfl))
  · intro as x K _ k pc lv x' h
    cases h
-- TwoSlotsModel.offer()I
def l_m_offer_120 (k : Nat) (u2 : Int32) (u3 : Int32) (x : mm_S) : Int32 × mm_S := match k with
  | 0 => (0, x)
  | k + 1 =>
    if (64 : Int32) ≤ u3 then
      let x5 := mm_setI x 106 u2
      let x6 := mm_setI x5 107 (0 : Int32)
      (u2, x6)
    else
      let x7 := mm_setA x 12 (upd (x.2.2 12) (Int32.toNatClampNeg u3) (x.2.2 11 (Int32.toNatClampNeg u3)))
      l_m_offer_120 (k) u2 (u3 + (1 : Int32)) x7
def okl_m_offer_120 (k : Nat) (u2 : Int32) (u3 : Int32) (x : mm_S) : Prop := match k with
  | 0 => False
  | k + 1 => if (64 : Int32) ≤ u3 then (let x5 := mm_setI x 106 u2; let x6 := mm_setI x5 107 (0 : Int32); True) else ((vp_in u3 64) ∧ ((vp_in u3 64) ∧ (let x7 := mm_setA x 12 (upd (x.2.2 12) (Int32.toNatClampNeg u3) (x.2.2 11 (Int32.toNatClampNeg u3))); okl_m_offer_120 (k) u2 (u3 + (1 : Int32)) x7)))
def e_m_offer (x : mm_S) : Int32 × mm_S :=
  if (x.1 100) = (0 : Int32) then
    if (x.1 103) = (-1 : Int32) then
      ((-103 : Int32), x)
    else
      if (e_m_isTrial x) = (0 : Int32) then
        if (e_m_newest x) = (-1 : Int32) then
          ((-103 : Int32), x)
        else
          if (x.1 105) = (64 : Int32) then
            let x2 := mm_setI x 105 (0 : Int32)
            if (e_m_isRight 64 11 (0 : Int32) x2) = (0 : Int32) then
              ((-105 : Int32), x2)
            else
              if (0 : Int32) ≤ (lg_cmp (e_m_read 64 11 (4 : Int32) (4 : Int32) x2) (e_m_counter x2)) then
                let y3 := e_m_otherOf (e_m_activeSlot x2) x2
                let q4 := e_m_erased ((e_m_headOf y3 x2) / (64 : Int32)) x2
                if q4.1 = (0 : Int32) then
                  ((-106 : Int32), q4.2)
                else
                  l_m_offer_120 (mm_fu (0 : Int32) 64) y3 (0 : Int32) q4.2
              else
                ((-105 : Int32), x2)
          else
            let x1 := mm_setI x 105 (0 : Int32)
            ((-105 : Int32), x1)
      else
        ((-103 : Int32), x)
  else
    ((-100 : Int32), x)
def ok_m_offer (x : mm_S) : Prop := if (x.1 100) = (0 : Int32) then (if (x.1 103) = (-1 : Int32) then (True) else (if (e_m_isTrial x) = (0 : Int32) then ((ok_m_newest  x) ∧ (if (e_m_newest x) = (-1 : Int32) then (True) else (if (x.1 105) = (64 : Int32) then (let x2 := mm_setI x 105 (0 : Int32); (ok_m_isRight 64 11 (0 : Int32) x2) ∧ (if (e_m_isRight 64 11 (0 : Int32) x2) = (0 : Int32) then (True) else ((ok_m_read 64 11 (4 : Int32) (4 : Int32) x2) ∧ ((ok_m_counter  x2) ∧ (if (0 : Int32) ≤ (lg_cmp (e_m_read 64 11 (4 : Int32) (4 : Int32) x2) (e_m_counter x2)) then ((ok_m_activeSlot  x2) ∧ (let y3 := e_m_otherOf (e_m_activeSlot x2) x2; (ok_m_erased ((e_m_headOf y3 x2) / (64 : Int32)) x2) ∧ (let q4 := e_m_erased ((e_m_headOf y3 x2) / (64 : Int32)) x2; if q4.1 = (0 : Int32) then (True) else (okl_m_offer_120 (mm_fu (0 : Int32) 64) y3 (0 : Int32) q4.2)))) else (True)))))) else (let x1 := mm_setI x 105 (0 : Int32); True)))) else (True))) else (True)
def S_m_offer : mm_P := fun as x K => as = [.ref 11] ∧ (ok_m_offer x) ∧ K (some (.int (e_m_offer x).1)) (e_m_offer x).2
theorem i_m_offer {x : mm_S} {K : mm_K} (hpre : (ok_m_offer x)) (hk : K (some (.int (e_m_offer x).1)) (e_m_offer x).2) : S_m_offer [.ref 11] x K := ⟨rfl, hpre, hk⟩
def G_m_offer : mm_G := (FT_MO, CI_MO, CJ_MO, mm_tb [(156, 1, S_m_otherOf), (84, 1, S_m_headOf)], mm_tb [(149, 1, 5, S_m_isTrial), (80, 1, 5, S_m_newest), (88, 3, 5, S_m_isRight), (68, 4, 5, S_m_read), (92, 1, 5, S_m_counter), (153, 1, 5, S_m_activeSlot), (122, 2, 5, S_m_erased)], none)
def rm_m_offer : Room := { frames := 3, cells := 0, slots := 0, locals := 76 }
abbrev Inv_m_offer : mm_K → List Value → mm_S → Nat → Nat → mm_V → mm_S → Prop := fun K _ _ k pc lv x => (pc = 120 ∧ ∃ (f : Nat) (u2 : Int32) (u3 : Int32), k = f + 0 ∧ lv = [(0, .ref 11), (2, .int u2), (3, .int u3)] ∧ okl_m_offer_120 f u2 u3 x ∧ K (some (.int (l_m_offer_120 f u2 u3 x).1)) (l_m_offer_120 f u2 u3 x).2)
set_option maxHeartbeats 40000000 in
set_option maxRecDepth 10000 in
theorem c_m_offer (l : Launch) : mm_Con l NW CL TB LL y_MO_offer b_MO_offer 4 (some .int) rm_m_offer S_m_offer := by
  refine mm_con G_m_offer [120] Inv_m_offer (by decide +kernel) tb_good LL_u nw_nest ?_ rfl ft_MO ci_MO cj_MO ?_ ?_ ?_ ?_
  · rintro as x K ⟨rfl, -⟩
    exact Nat.le_of_ble_eq_true rfl
  · exact mm_tb_e (List.forall_mem_cons.mpr ⟨mm_cst_i (c_m_otherOf l) (mm_cb_i rfl rfl (by decide) (by decide) tc_MO_otherOf ti_MO ⟨by decide, by decide, by decide +kernel⟩ (Or.inl tl_MO_156)) ts_MO_otherOf, List.forall_mem_cons.mpr ⟨mm_cst_i (c_m_headOf l) (mm_cb_i rfl rfl (by decide) (by decide) tc_MO_headOf ti_MO ⟨by decide, by decide, by decide +kernel⟩ (Or.inl tl_MO_84)) ts_MO_headOf, fun _ h => absurd h List.not_mem_nil⟩⟩)
  · exact mm_tb_e (List.forall_mem_cons.mpr ⟨mm_cvt_i (c_m_isTrial l) (mm_cb_i rfl rfl (by decide) (by decide) tc_MO_isTrial ti_MO ⟨by decide, by decide, by decide +kernel⟩ (Or.inl tl_MO_149)) rfl tv_MO_isTrial tx_MO_isTrial, List.forall_mem_cons.mpr ⟨mm_cvt_i (c_m_newest l) (mm_cb_i rfl rfl (by decide) (by decide) tc_MO_newest ti_MO ⟨by decide, by decide, by decide +kernel⟩ (Or.inl tl_MO_80)) rfl tv_MO_newest tx_MO_newest, List.forall_mem_cons.mpr ⟨mm_cvt_i (c_m_isRight l) (mm_cb_i rfl rfl (by decide) (by decide) tc_MO_isRight ti_MO ⟨by decide, by decide, by decide +kernel⟩ (Or.inl tl_MO_88)) rfl tv_MO_isRight tx_MO_isRight, List.forall_mem_cons.mpr ⟨mm_cvt_i (c_m_read l) (mm_cb_i rfl rfl (by decide) (by decide) tc_MO_read ti_MO ⟨by decide, by decide, by decide +kernel⟩ (Or.inl tl_MO_68)) rfl tv_MO_read tx_MO_read, List.forall_mem_cons.mpr ⟨mm_cvt_i (c_m_counter l) (mm_cb_i rfl rfl (by decide) (by decide) tc_MO_counter ti_MO ⟨by decide, by decide, by decide +kernel⟩ (Or.inl tl_MO_92)) rfl tv_MO_counter tx_MO_counter, List.forall_mem_cons.mpr ⟨mm_cvt_i (c_m_activeSlot l) (mm_cb_i rfl rfl (by decide) (by decide) tc_MO_activeSlot ti_MO ⟨by decide, by decide, by decide +kernel⟩ (Or.inl tl_MO_153)) rfl tv_MO_activeSlot tx_MO_activeSlot, List.forall_mem_cons.mpr ⟨mm_cvt_i (c_m_erased l) (mm_cb_i rfl rfl (by decide) (by decide) tc_MO_erased ti_MO ⟨by decide, by decide, by decide +kernel⟩ (Or.inl tl_MO_122)) rfl tv_MO_erased tx_MO_erased, fun _ h => absurd h List.not_mem_nil⟩⟩⟩⟩⟩⟩⟩)
  · rintro as x K ⟨rfl, hok, hk⟩
    refine ⟨400, ?_⟩
    refine v_aload_n d_MO_offer_0 rfl ?_
    refine a_go (by decide) (v_getI d_MO_offer_1 rfl rfl rfl ?_)
    refine a_go (by decide) (v_if_eq d_MO_offer_4 (t := 10) (by decide) (fun c1 => ?_) (fun c1 => ?_))
    · skip
      replace hok := mm_okp hok c1
      refine a_go (by decide) (v_aload_n d_MO_offer_10 rfl ?_)
      refine a_go (by decide) (v_getI d_MO_offer_11 rfl rfl rfl ?_)
      refine a_go (by decide) (v_iconst d_MO_offer_14 ki_m1 ?_)
      refine a_go (by decide) (v_icmp_eq d_MO_offer_15 (t := 33) (by decide) (fun c2 => ?_) (fun c2 => ?_))
      · skip
        replace hok := mm_okp hok c2
        refine a_go (by decide) (v_bipush d_MO_offer_33 kb_m103 ?_)
        refine a_go (by decide) (v_ireturn d_MO_offer_35 rfl rfl ?_)
        exact mm_fiVS hk (mm_ifp c1 (mm_ifp c2 rfl))
      · skip
        replace hok := mm_okn hok c2
        refine a_go (by decide) (v_aload_n d_MO_offer_18 rfl ?_)
        refine a_go (by decide) (v_callV d_MO_offer_19 rfl (mm_spl 1 rfl) rfl (Nat.le_of_ble_eq_true rfl) rfl ?_)
        refine (i_m_isTrial ?_)
        refine a_go (by decide) (v_if_ne d_MO_offer_22 (t := 33) (by decide) (fun c3 => ?_) (fun c3 => ?_))
        · skip
          replace hok := mm_okn hok c3
          refine a_go (by decide) (v_bipush d_MO_offer_33 kb_m103 ?_)
          refine a_go (by decide) (v_ireturn d_MO_offer_35 rfl rfl ?_)
          exact mm_fiVS hk (mm_ifp c1 (mm_ifn c2 (mm_ifn c3 rfl)))
        · skip
          replace hok := mm_okp hok c3
          refine a_go (by decide) (v_aload_n d_MO_offer_25 rfl ?_)
          refine a_go (by decide) (v_callV d_MO_offer_26 rfl (mm_spl 1 rfl) rfl (Nat.le_of_ble_eq_true rfl) rfl ?_)
          have o1 := And.left hok
          replace hok := And.right hok
          refine (i_m_newest o1 ?_)
          refine a_go (by decide) (v_iconst d_MO_offer_29 ki_m1 ?_)
          refine a_go (by decide) (v_icmp_ne d_MO_offer_30 (t := 36) (by decide) (fun c4 => ?_) (fun c4 => ?_))
          · skip
            replace hok := mm_okn hok c4
            refine a_go (by decide) (v_aload_n d_MO_offer_36 rfl ?_)
            refine a_go (by decide) (v_getI d_MO_offer_37 rfl rfl rfl ?_)
            refine a_go (by decide) (v_bipush d_MO_offer_40 kb_64 ?_)
            refine a_go (by decide) (v_icmp_ne d_MO_offer_42 (t := 49) (by decide) (fun c5 => ?_) (fun c5 => ?_))
            · skip
              replace hok := mm_okn hok c5
              refine a_go (by decide) (v_iconst d_MO_offer_49 ki_0 ?_)
              refine a_go (by decide) (v_istore_n d_MO_offer_50 (by decide) ?_)
              refine a_go (by decide) (v_aload_n d_MO_offer_51 rfl ?_)
              refine a_go (by decide) (v_iconst d_MO_offer_52 ki_0 ?_)
              refine a_go (by decide) (v_putI d_MO_offer_53 rfl rfl rfl ?_)
              refine a_go (by decide) (v_iload_n d_MO_offer_56 rfl ?_)
              refine a_go (by decide) (v_if_eq d_MO_offer_57 (t := 90) (by decide) (fun c6 => ?_) (fun c6 => absurd c6 (by decide)))
              refine a_go (by decide) (v_bipush d_MO_offer_90 kb_m105 ?_)
              refine a_go (by decide) (v_ireturn d_MO_offer_92 rfl rfl ?_)
              exact mm_fiVS hk (mm_ifp c1 (mm_ifn c2 (mm_ifp c3 (mm_ifn c4 (mm_ifn c5 rfl)))))
            · skip
              replace hok := mm_okp hok c5
              refine a_go (by decide) (v_iconst d_MO_offer_45 ki_1 ?_)
              refine a_go (by decide) (v_goto d_MO_offer_46 (t := 50) (by decide) ?_)
              refine a_go (by decide) (v_istore_n d_MO_offer_50 (by decide) ?_)
              refine a_go (by decide) (v_aload_n d_MO_offer_51 rfl ?_)
              refine a_go (by decide) (v_iconst d_MO_offer_52 ki_0 ?_)
              refine a_go (by decide) (v_putI d_MO_offer_53 rfl rfl rfl ?_)
              refine a_go (by decide) (v_iload_n d_MO_offer_56 rfl ?_)
              refine a_go (by decide) (v_if_eq d_MO_offer_57 (t := 90) (by decide) (fun c7 => absurd c7 (by decide)) (fun c7 => ?_))
              refine a_go (by decide) (v_aload_n d_MO_offer_60 rfl ?_)
              refine a_go (by decide) (v_aload_n d_MO_offer_61 rfl ?_)
              refine a_go (by decide) (v_getR d_MO_offer_62 rfl rfl rfl ?_)
              refine a_go (by decide) (v_iconst d_MO_offer_65 ki_0 ?_)
              refine a_go (by decide) (v_callV d_MO_offer_66 rfl (mm_spl 3 rfl) rfl (Nat.le_of_ble_eq_true rfl) rfl ?_)
              have o2 := And.left hok
              replace hok := And.right hok
              refine (i_m_isRight rfl o2 ?_)
              refine a_go (by decide) (v_if_eq d_MO_offer_69 (t := 90) (by decide) (fun c8 => ?_) (fun c8 => ?_))
              · skip
                replace hok := mm_okp hok c8
                refine a_go (by decide) (v_bipush d_MO_offer_90 kb_m105 ?_)
                refine a_go (by decide) (v_ireturn d_MO_offer_92 rfl rfl ?_)
                exact mm_fiVS hk (mm_ifp c1 (mm_ifn c2 (mm_ifp c3 (mm_ifn c4 (mm_ifp c5 (mm_ifp c8 rfl))))))
              · skip
                replace hok := mm_okn hok c8
                refine a_go (by decide) (v_aload_n d_MO_offer_72 rfl ?_)
                refine a_go (by decide) (v_aload_n d_MO_offer_73 rfl ?_)
                refine a_go (by decide) (v_getR d_MO_offer_74 rfl rfl rfl ?_)
                refine a_go (by decide) (v_iconst d_MO_offer_77 ki_4 ?_)
                refine a_go (by decide) (v_iconst d_MO_offer_78 ki_4 ?_)
                refine a_go (by decide) (v_callV d_MO_offer_79 rfl (mm_spl 4 rfl) rfl (Nat.le_of_ble_eq_true rfl) rfl ?_)
                have o3 := And.left hok
                replace hok := And.right hok
                refine (i_m_read rfl o3 ?_)
                refine a_go (by decide) (v_aload_n d_MO_offer_82 rfl ?_)
                refine a_go (by decide) (v_callV d_MO_offer_83 rfl (mm_spl 1 rfl) rfl (Nat.le_of_ble_eq_true rfl) rfl ?_)
                have o4 := And.left hok
                replace hok := And.right hok
                refine (i_m_counter o4 ?_)
                refine a_go (by decide) (v_lcmp d_MO_offer_86 ?_)
                refine a_go (by decide) (v_if_ge d_MO_offer_87 (t := 93) (by decide) (fun c9 => ?_) (fun c9 => ?_))
                · skip
                  replace hok := mm_okp hok c9
                  refine a_go (by decide) (v_aload_n d_MO_offer_93 rfl ?_)
                  refine a_go (by decide) (v_callV d_MO_offer_94 rfl (mm_spl 1 rfl) rfl (Nat.le_of_ble_eq_true rfl) rfl ?_)
                  have o5 := And.left hok
                  replace hok := And.right hok
                  refine (i_m_activeSlot o5 ?_)
                  refine a_go (by decide) (v_callS d_MO_offer_97 rfl (mm_spl 1 rfl) rfl (Nat.le_of_ble_eq_true rfl) ?_)
                  refine (i_m_otherOf ?_)
                  refine a_go (by decide) (v_istore_n d_MO_offer_100 (by decide) ?_)
                  refine a_go (by decide) (v_aload_n d_MO_offer_101 rfl ?_)
                  refine a_go (by decide) (v_iload_n d_MO_offer_102 rfl ?_)
                  refine a_go (by decide) (v_callS d_MO_offer_103 rfl (mm_spl 1 rfl) rfl (Nat.le_of_ble_eq_true rfl) ?_)
                  refine (i_m_headOf ?_)
                  refine a_go (by decide) (v_bipush d_MO_offer_106 kb_64 ?_)
                  refine a_go (by decide) (v_idiv d_MO_offer_108 (by decide) ?_)
                  refine a_go (by decide) (v_callV d_MO_offer_109 rfl (mm_spl 2 rfl) rfl (Nat.le_of_ble_eq_true rfl) rfl ?_)
                  have o6 := And.left hok
                  replace hok := And.right hok
                  refine (i_m_erased o6 ?_)
                  refine a_go (by decide) (v_if_ne d_MO_offer_112 (t := 118) (by decide) (fun c10 => ?_) (fun c10 => ?_))
                  · skip
                    replace hok := mm_okn hok c10
                    refine a_go (by decide) (v_iconst d_MO_offer_118 ki_0 ?_)
                    refine a_go (by decide) (v_istore_n d_MO_offer_119 (by decide) ?_)
                    refine a_cut (by decide) ⟨rfl, _, [(0, _), (2, _), (3, _)], (mm_all_c rfl (mm_all_c rfl (mm_all_c rfl (mm_all_n)))), ⟨rfl, _, _, _, rfl, rfl, hok, (mm_mvVS hk (mm_ifp c1 (mm_ifn c2 (mm_ifp c3 (mm_ifn c4 (mm_ifp c5 (mm_ifn c8 (mm_ifp c9 (mm_ifn c10 rfl)))))))))⟩⟩
                  · skip
                    replace hok := mm_okp hok c10
                    refine a_go (by decide) (v_bipush d_MO_offer_115 kb_m106 ?_)
                    refine a_go (by decide) (v_ireturn d_MO_offer_117 rfl rfl ?_)
                    exact mm_fiVS hk (mm_ifp c1 (mm_ifn c2 (mm_ifp c3 (mm_ifn c4 (mm_ifp c5 (mm_ifn c8 (mm_ifp c9 (mm_ifp c10 rfl))))))))
                · skip
                  replace hok := mm_okn hok c9
                  refine a_go (by decide) (v_bipush d_MO_offer_90 kb_m105 ?_)
                  refine a_go (by decide) (v_ireturn d_MO_offer_92 rfl rfl ?_)
                  exact mm_fiVS hk (mm_ifp c1 (mm_ifn c2 (mm_ifp c3 (mm_ifn c4 (mm_ifp c5 (mm_ifn c8 (mm_ifn c9 rfl)))))))
          · skip
            replace hok := mm_okp hok c4
            refine a_go (by decide) (v_bipush d_MO_offer_33 kb_m103 ?_)
            refine a_go (by decide) (v_ireturn d_MO_offer_35 rfl rfl ?_)
            exact mm_fiVS hk (mm_ifp c1 (mm_ifn c2 (mm_ifp c3 (mm_ifp c4 rfl))))
    · skip
      replace hok := mm_okn hok c1
      refine a_go (by decide) (v_bipush d_MO_offer_7 kb_m100 ?_)
      refine a_go (by decide) (v_ireturn d_MO_offer_9 rfl rfl ?_)
      exact mm_fiVS hk (mm_ifn c1 rfl)
  · rintro as x0 K - k pc lv x - hinv
    obtain ⟨rfl, f, u2, u3, hkf, rfl, hok, hk⟩ := hinv
    cases f with
    | zero => exact False.elim hok
    | succ k =>
      subst hkf
      refine ⟨900, ?_⟩
      refine v_iload_n d_MO_offer_120 rfl ?_
      refine a_go (by decide) (v_bipush d_MO_offer_121 kb_64 ?_)
      refine a_go (by decide) (v_icmp_ge d_MO_offer_123 (t := 144) (by decide) (fun c11 => ?_) (fun c11 => ?_))
      · skip
        replace hok := mm_okp hok c11
        refine a_go (by decide) (v_aload_n d_MO_offer_144 rfl ?_)
        refine a_go (by decide) (v_iload_n d_MO_offer_145 rfl ?_)
        refine a_go (by decide) (v_putI d_MO_offer_146 rfl rfl rfl ?_)
        refine a_go (by decide) (v_aload_n d_MO_offer_149 rfl ?_)
        refine a_go (by decide) (v_iconst d_MO_offer_150 ki_0 ?_)
        refine a_go (by decide) (v_putI d_MO_offer_151 rfl rfl rfl ?_)
        refine a_go (by decide) (v_iload_n d_MO_offer_154 rfl ?_)
        refine a_go (by decide) (v_ireturn d_MO_offer_155 rfl rfl ?_)
        exact mm_fiVS hk (mm_ifp c11 rfl)
      · skip
        replace hok := mm_okn hok c11
        refine a_go (by decide) (v_aload_n d_MO_offer_126 rfl ?_)
        refine a_go (by decide) (v_getR d_MO_offer_127 rfl rfl rfl ?_)
        refine a_go (by decide) (v_iload_n d_MO_offer_130 rfl ?_)
        refine a_go (by decide) (v_aload_n d_MO_offer_131 rfl ?_)
        refine a_go (by decide) (v_getR d_MO_offer_132 rfl rfl rfl ?_)
        refine a_go (by decide) (v_iload_n d_MO_offer_135 rfl ?_)
        have o7 := And.left hok
        replace hok := And.right hok
        refine a_go (by decide) (v_iaload d_MO_offer_136 (by decide) rfl o7 ?_)
        have o8 := And.left hok
        replace hok := And.right hok
        refine a_go (by decide) (v_iastore d_MO_offer_137 rfl o8 ?_)
        refine a_go (by decide) (v_iinc d_MO_offer_138 (by decide) rfl ki_1 ?_)
        refine a_go (by decide) (v_goto d_MO_offer_141 (t := 120) (by decide) ?_)
        refine a_cut (by decide) ⟨rfl, _, [(0, _), (2, _), (3, _)], ?_, (mm_all_c rfl (mm_all_c rfl (mm_all_c rfl (mm_all_n)))), ⟨rfl, _, _, _, rfl, rfl, hok, (mm_mvVS hk (mm_ifn c11 rfl))⟩⟩
        exact Nat.lt_succ_self _
-- TwoSlotsModel.awaited()I
def e_m_awaited (x : mm_S) : Int32 :=
  if (x.1 106) = (-1 : Int32) then
    (0 : Int32)
  else
    (Int64.toInt32 (e_m_read 64 12 (8 : Int32) (4 : Int32) x)) - (x.1 107)
def ok_m_awaited (x : mm_S) : Prop := if (x.1 106) = (-1 : Int32) then (True) else ((ok_m_read 64 12 (8 : Int32) (4 : Int32) x) ∧ (True))
def S_m_awaited : mm_P := fun as x K => as = [.ref 11] ∧ (ok_m_awaited x) ∧ K (some (.int (e_m_awaited x))) x
theorem i_m_awaited {x : mm_S} {K : mm_K} (hpre : (ok_m_awaited x)) (hk : K (some (.int (e_m_awaited x))) x) : S_m_awaited [.ref 11] x K := ⟨rfl, hpre, hk⟩
def G_m_awaited : mm_G := (FT_MO, CI_MO, CJ_MO, mm_tb [], mm_tb [(68, 4, 5, S_m_read)], none)
def rm_m_awaited : Room := { frames := 1, cells := 0, slots := 0, locals := 26 }
set_option maxHeartbeats 40000000 in
set_option maxRecDepth 10000 in
theorem c_m_awaited (l : Launch) : mm_Con l NW CL TB LL y_MO_awaited b_MO_awaited 1 (some .int) rm_m_awaited S_m_awaited := by
  refine mm_con G_m_awaited [] (fun _ _ _ _ _ _ _ => False) (by decide +kernel) tb_good LL_u nw_nest ?_ rfl ft_MO ci_MO cj_MO ?_ ?_ ?_ ?_
  · rintro as x K ⟨rfl, -⟩
    exact Nat.le_of_ble_eq_true rfl
  · exact mm_tb_e (fun _ h => absurd h List.not_mem_nil)
  · exact mm_tb_e (List.forall_mem_cons.mpr ⟨mm_cvt_i (c_m_read l) (mm_cb_i rfl rfl (by decide) (by decide) tc_MO_read ti_MO ⟨by decide, by decide, by decide +kernel⟩ (Or.inl tl_MO_68)) rfl tv_MO_read tx_MO_read, fun _ h => absurd h List.not_mem_nil⟩)
  · rintro as x K ⟨rfl, hok, hk⟩
    refine ⟨400, ?_⟩
    refine v_aload_n d_MO_awaited_0 rfl ?_
    refine a_go (by decide) (v_getI d_MO_awaited_1 rfl rfl rfl ?_)
    refine a_go (by decide) (v_iconst d_MO_awaited_4 ki_m1 ?_)
    refine a_go (by decide) (v_icmp_ne d_MO_awaited_5 (t := 12) (by decide) (fun c1 => ?_) (fun c1 => ?_))
    · skip
      replace hok := mm_okn hok c1
      refine a_go (by decide) (v_aload_n d_MO_awaited_12 rfl ?_)
      refine a_go (by decide) (v_aload_n d_MO_awaited_13 rfl ?_)
      refine a_go (by decide) (v_getR d_MO_awaited_14 rfl rfl rfl ?_)
      refine a_go (by decide) (v_bipush d_MO_awaited_17 kb_8 ?_)
      refine a_go (by decide) (v_iconst d_MO_awaited_19 ki_4 ?_)
      refine a_go (by decide) (v_callV d_MO_awaited_20 rfl (mm_spl 4 rfl) rfl (Nat.le_of_ble_eq_true rfl) rfl ?_)
      have o1 := And.left hok
      replace hok := And.right hok
      refine (i_m_read rfl o1 ?_)
      refine a_go (by decide) (v_l2i d_MO_awaited_23 ?_)
      refine a_go (by decide) (v_aload_n d_MO_awaited_24 rfl ?_)
      refine a_go (by decide) (v_getI d_MO_awaited_25 rfl rfl rfl ?_)
      refine a_go (by decide) (v_isub d_MO_awaited_28 ?_)
      refine a_go (by decide) (v_ireturn d_MO_awaited_29 rfl rfl ?_)
      exact mm_fiV hk (mm_ifn c1 rfl)
    · skip
      replace hok := mm_okp hok c1
      refine a_go (by decide) (v_iconst d_MO_awaited_8 ki_0 ?_)
      refine a_go (by decide) (v_goto d_MO_awaited_9 (t := 29) (by decide) ?_)
      refine a_go (by decide) (v_ireturn d_MO_awaited_29 rfl rfl ?_)
      exact mm_fiV hk (mm_ifp c1 rfl)
  · intro as x K _ k pc lv x' h
    cases h
-- TwoSlotsModel.block()I
def l_m_block_89 (k : Nat) (u2 : Int32) (u3 : Int32) (x : mm_S) : Int32 × mm_S := match k with
  | 0 => (0, x)
  | k + 1 =>
    if (64 : Int32) ≤ u3 then
      let x5 := mm_setI x 107 ((x.1 107) + (1 : Int32))
      (e_m_awaited x5, x5)
    else
      let q6 := e_m_programmed (u2 + u3) 64 11 u3 x
      if q6.1 = (0 : Int32) then
        ((-106 : Int32), q6.2)
      else
        l_m_block_89 (k) u2 (u3 + (16 : Int32)) q6.2
def okl_m_block_89 (k : Nat) (u2 : Int32) (u3 : Int32) (x : mm_S) : Prop := match k with
  | 0 => False
  | k + 1 => if (64 : Int32) ≤ u3 then (let x5 := mm_setI x 107 ((x.1 107) + (1 : Int32)); (ok_m_awaited  x5) ∧ (True)) else ((ok_m_programmed (u2 + u3) 64 11 u3 x) ∧ (let q6 := e_m_programmed (u2 + u3) 64 11 u3 x; if q6.1 = (0 : Int32) then (True) else (okl_m_block_89 (k) u2 (u3 + (16 : Int32)) q6.2)))
def e_m_block (x : mm_S) : Int32 × mm_S :=
  if (x.1 100) = (0 : Int32) then
    if (x.1 106) = (-1 : Int32) then
      ((-103 : Int32), x)
    else
      if (e_m_awaited x) = (0 : Int32) then
        ((-103 : Int32), x)
      else
        if (x.1 105) = (64 : Int32) then
          let x2 := mm_setI x 105 (0 : Int32)
          let y3 := (e_m_headOf (x2.1 106) x2) + ((64 : Int32) * ((1 : Int32) + (x2.1 107)))
          let q4 := e_m_erased (y3 / (64 : Int32)) x2
          if q4.1 = (0 : Int32) then
            ((-106 : Int32), q4.2)
          else
            l_m_block_89 (mm_fu (0 : Int32) 64) y3 (0 : Int32) q4.2
        else
          let x1 := mm_setI x 105 (0 : Int32)
          ((-105 : Int32), x1)
  else
    ((-100 : Int32), x)
def ok_m_block (x : mm_S) : Prop := if (x.1 100) = (0 : Int32) then (if (x.1 106) = (-1 : Int32) then (True) else ((ok_m_awaited  x) ∧ (if (e_m_awaited x) = (0 : Int32) then (True) else (if (x.1 105) = (64 : Int32) then (let x2 := mm_setI x 105 (0 : Int32); let y3 := (e_m_headOf (x2.1 106) x2) + ((64 : Int32) * ((1 : Int32) + (x2.1 107))); (ok_m_erased (y3 / (64 : Int32)) x2) ∧ (let q4 := e_m_erased (y3 / (64 : Int32)) x2; if q4.1 = (0 : Int32) then (True) else (okl_m_block_89 (mm_fu (0 : Int32) 64) y3 (0 : Int32) q4.2))) else (let x1 := mm_setI x 105 (0 : Int32); True))))) else (True)
def S_m_block : mm_P := fun as x K => as = [.ref 11] ∧ (ok_m_block x) ∧ K (some (.int (e_m_block x).1)) (e_m_block x).2
theorem i_m_block {x : mm_S} {K : mm_K} (hpre : (ok_m_block x)) (hk : K (some (.int (e_m_block x).1)) (e_m_block x).2) : S_m_block [.ref 11] x K := ⟨rfl, hpre, hk⟩
def G_m_block : mm_G := (FT_MO, CI_MO, CJ_MO, mm_tb [(84, 1, S_m_headOf)], mm_tb [(162, 1, 5, S_m_awaited), (122, 2, 5, S_m_erased), (125, 4, 5, S_m_programmed)], none)
def rm_m_block : Room := { frames := 2, cells := 0, slots := 0, locals := 47 }
abbrev Inv_m_block : mm_K → List Value → mm_S → Nat → Nat → mm_V → mm_S → Prop := fun K _ _ k pc lv x => (pc = 89 ∧ ∃ (f : Nat) (u2 : Int32) (u3 : Int32), k = f + 0 ∧ lv = [(0, .ref 11), (2, .int u2), (3, .int u3)] ∧ okl_m_block_89 f u2 u3 x ∧ K (some (.int (l_m_block_89 f u2 u3 x).1)) (l_m_block_89 f u2 u3 x).2)
set_option maxHeartbeats 40000000 in
set_option maxRecDepth 10000 in
theorem c_m_block (l : Launch) : mm_Con l NW CL TB LL y_MO_block b_MO_block 4 (some .int) rm_m_block S_m_block := by
  refine mm_con G_m_block [89] Inv_m_block (by decide +kernel) tb_good LL_u nw_nest ?_ rfl ft_MO ci_MO cj_MO ?_ ?_ ?_ ?_
  · rintro as x K ⟨rfl, -⟩
    exact Nat.le_of_ble_eq_true rfl
  · exact mm_tb_e (List.forall_mem_cons.mpr ⟨mm_cst_i (c_m_headOf l) (mm_cb_i rfl rfl (by decide) (by decide) tc_MO_headOf ti_MO ⟨by decide, by decide, by decide +kernel⟩ (Or.inl tl_MO_84)) ts_MO_headOf, fun _ h => absurd h List.not_mem_nil⟩)
  · exact mm_tb_e (List.forall_mem_cons.mpr ⟨mm_cvt_i (c_m_awaited l) (mm_cb_i rfl rfl (by decide) (by decide) tc_MO_awaited ti_MO ⟨by decide, by decide, by decide +kernel⟩ (Or.inl tl_MO_162)) rfl tv_MO_awaited tx_MO_awaited, List.forall_mem_cons.mpr ⟨mm_cvt_i (c_m_erased l) (mm_cb_i rfl rfl (by decide) (by decide) tc_MO_erased ti_MO ⟨by decide, by decide, by decide +kernel⟩ (Or.inl tl_MO_122)) rfl tv_MO_erased tx_MO_erased, List.forall_mem_cons.mpr ⟨mm_cvt_i (c_m_programmed l) (mm_cb_i rfl rfl (by decide) (by decide) tc_MO_programmed ti_MO ⟨by decide, by decide, by decide +kernel⟩ (Or.inl tl_MO_125)) rfl tv_MO_programmed tx_MO_programmed, fun _ h => absurd h List.not_mem_nil⟩⟩⟩)
  · rintro as x K ⟨rfl, hok, hk⟩
    refine ⟨400, ?_⟩
    refine v_aload_n d_MO_block_0 rfl ?_
    refine a_go (by decide) (v_getI d_MO_block_1 rfl rfl rfl ?_)
    refine a_go (by decide) (v_if_eq d_MO_block_4 (t := 10) (by decide) (fun c1 => ?_) (fun c1 => ?_))
    · skip
      replace hok := mm_okp hok c1
      refine a_go (by decide) (v_aload_n d_MO_block_10 rfl ?_)
      refine a_go (by decide) (v_getI d_MO_block_11 rfl rfl rfl ?_)
      refine a_go (by decide) (v_iconst d_MO_block_14 ki_m1 ?_)
      refine a_go (by decide) (v_icmp_eq d_MO_block_15 (t := 25) (by decide) (fun c2 => ?_) (fun c2 => ?_))
      · skip
        replace hok := mm_okp hok c2
        refine a_go (by decide) (v_bipush d_MO_block_25 kb_m103 ?_)
        refine a_go (by decide) (v_ireturn d_MO_block_27 rfl rfl ?_)
        exact mm_fiVS hk (mm_ifp c1 (mm_ifp c2 rfl))
      · skip
        replace hok := mm_okn hok c2
        refine a_go (by decide) (v_aload_n d_MO_block_18 rfl ?_)
        refine a_go (by decide) (v_callV d_MO_block_19 rfl (mm_spl 1 rfl) rfl (Nat.le_of_ble_eq_true rfl) rfl ?_)
        have o1 := And.left hok
        replace hok := And.right hok
        refine (i_m_awaited o1 ?_)
        refine a_go (by decide) (v_if_ne d_MO_block_22 (t := 28) (by decide) (fun c3 => ?_) (fun c3 => ?_))
        · skip
          replace hok := mm_okn hok c3
          refine a_go (by decide) (v_aload_n d_MO_block_28 rfl ?_)
          refine a_go (by decide) (v_getI d_MO_block_29 rfl rfl rfl ?_)
          refine a_go (by decide) (v_bipush d_MO_block_32 kb_64 ?_)
          refine a_go (by decide) (v_icmp_ne d_MO_block_34 (t := 41) (by decide) (fun c4 => ?_) (fun c4 => ?_))
          · skip
            replace hok := mm_okn hok c4
            refine a_go (by decide) (v_iconst d_MO_block_41 ki_0 ?_)
            refine a_go (by decide) (v_istore_n d_MO_block_42 (by decide) ?_)
            refine a_go (by decide) (v_aload_n d_MO_block_43 rfl ?_)
            refine a_go (by decide) (v_iconst d_MO_block_44 ki_0 ?_)
            refine a_go (by decide) (v_putI d_MO_block_45 rfl rfl rfl ?_)
            refine a_go (by decide) (v_iload_n d_MO_block_48 rfl ?_)
            refine a_go (by decide) (v_if_ne d_MO_block_49 (t := 55) (by decide) (fun c5 => absurd c5 (by decide)) (fun c5 => ?_))
            refine a_go (by decide) (v_bipush d_MO_block_52 kb_m105 ?_)
            refine a_go (by decide) (v_ireturn d_MO_block_54 rfl rfl ?_)
            exact mm_fiVS hk (mm_ifp c1 (mm_ifn c2 (mm_ifn c3 (mm_ifn c4 rfl))))
          · skip
            replace hok := mm_okp hok c4
            refine a_go (by decide) (v_iconst d_MO_block_37 ki_1 ?_)
            refine a_go (by decide) (v_goto d_MO_block_38 (t := 42) (by decide) ?_)
            refine a_go (by decide) (v_istore_n d_MO_block_42 (by decide) ?_)
            refine a_go (by decide) (v_aload_n d_MO_block_43 rfl ?_)
            refine a_go (by decide) (v_iconst d_MO_block_44 ki_0 ?_)
            refine a_go (by decide) (v_putI d_MO_block_45 rfl rfl rfl ?_)
            refine a_go (by decide) (v_iload_n d_MO_block_48 rfl ?_)
            refine a_go (by decide) (v_if_ne d_MO_block_49 (t := 55) (by decide) (fun c6 => ?_) (fun c6 => absurd c6 (by decide)))
            refine a_go (by decide) (v_aload_n d_MO_block_55 rfl ?_)
            refine a_go (by decide) (v_getI d_MO_block_56 rfl rfl rfl ?_)
            refine a_go (by decide) (v_callS d_MO_block_59 rfl (mm_spl 1 rfl) rfl (Nat.le_of_ble_eq_true rfl) ?_)
            refine (i_m_headOf ?_)
            refine a_go (by decide) (v_bipush d_MO_block_62 kb_64 ?_)
            refine a_go (by decide) (v_iconst d_MO_block_64 ki_1 ?_)
            refine a_go (by decide) (v_aload_n d_MO_block_65 rfl ?_)
            refine a_go (by decide) (v_getI d_MO_block_66 rfl rfl rfl ?_)
            refine a_go (by decide) (v_iadd d_MO_block_69 ?_)
            refine a_go (by decide) (v_imul d_MO_block_70 ?_)
            refine a_go (by decide) (v_iadd d_MO_block_71 ?_)
            refine a_go (by decide) (v_istore_n d_MO_block_72 (by decide) ?_)
            refine a_go (by decide) (v_aload_n d_MO_block_73 rfl ?_)
            refine a_go (by decide) (v_iload_n d_MO_block_74 rfl ?_)
            refine a_go (by decide) (v_bipush d_MO_block_75 kb_64 ?_)
            refine a_go (by decide) (v_idiv d_MO_block_77 (by decide) ?_)
            refine a_go (by decide) (v_callV d_MO_block_78 rfl (mm_spl 2 rfl) rfl (Nat.le_of_ble_eq_true rfl) rfl ?_)
            have o2 := And.left hok
            replace hok := And.right hok
            refine (i_m_erased o2 ?_)
            refine a_go (by decide) (v_if_ne d_MO_block_81 (t := 87) (by decide) (fun c7 => ?_) (fun c7 => ?_))
            · skip
              replace hok := mm_okn hok c7
              refine a_go (by decide) (v_iconst d_MO_block_87 ki_0 ?_)
              refine a_go (by decide) (v_istore_n d_MO_block_88 (by decide) ?_)
              refine a_cut (by decide) ⟨rfl, _, [(0, _), (2, _), (3, _)], (mm_all_c rfl (mm_all_c rfl (mm_all_c rfl (mm_all_n)))), ⟨rfl, _, _, _, rfl, rfl, hok, (mm_mvVS hk (mm_ifp c1 (mm_ifn c2 (mm_ifn c3 (mm_ifp c4 (mm_ifn c7 rfl))))))⟩⟩
            · skip
              replace hok := mm_okp hok c7
              refine a_go (by decide) (v_bipush d_MO_block_84 kb_m106 ?_)
              refine a_go (by decide) (v_ireturn d_MO_block_86 rfl rfl ?_)
              exact mm_fiVS hk (mm_ifp c1 (mm_ifn c2 (mm_ifn c3 (mm_ifp c4 (mm_ifp c7 rfl)))))
        · skip
          replace hok := mm_okp hok c3
          refine a_go (by decide) (v_bipush d_MO_block_25 kb_m103 ?_)
          refine a_go (by decide) (v_ireturn d_MO_block_27 rfl rfl ?_)
          exact mm_fiVS hk (mm_ifp c1 (mm_ifn c2 (mm_ifp c3 rfl)))
    · skip
      replace hok := mm_okn hok c1
      refine a_go (by decide) (v_bipush d_MO_block_7 kb_m100 ?_)
      refine a_go (by decide) (v_ireturn d_MO_block_9 rfl rfl ?_)
      exact mm_fiVS hk (mm_ifn c1 rfl)
  · rintro as x0 K - k pc lv x - hinv
    obtain ⟨rfl, f, u2, u3, hkf, rfl, hok, hk⟩ := hinv
    cases f with
    | zero => exact False.elim hok
    | succ k =>
      subst hkf
      refine ⟨900, ?_⟩
      refine v_iload_n d_MO_block_89 rfl ?_
      refine a_go (by decide) (v_bipush d_MO_block_90 kb_64 ?_)
      refine a_go (by decide) (v_icmp_ge d_MO_block_92 (t := 119) (by decide) (fun c8 => ?_) (fun c8 => ?_))
      · skip
        replace hok := mm_okp hok c8
        refine a_go (by decide) (v_aload_n d_MO_block_119 rfl ?_)
        refine a_go (by decide) (v_dup d_MO_block_120 rfl ?_)
        refine a_go (by decide) (v_getI d_MO_block_121 rfl rfl rfl ?_)
        refine a_go (by decide) (v_iconst d_MO_block_124 ki_1 ?_)
        refine a_go (by decide) (v_iadd d_MO_block_125 ?_)
        refine a_go (by decide) (v_putI d_MO_block_126 rfl rfl rfl ?_)
        refine a_go (by decide) (v_aload_n d_MO_block_129 rfl ?_)
        refine a_go (by decide) (v_callV d_MO_block_130 rfl (mm_spl 1 rfl) rfl (Nat.le_of_ble_eq_true rfl) rfl ?_)
        have o3 := And.left hok
        replace hok := And.right hok
        refine (i_m_awaited o3 ?_)
        refine a_go (by decide) (v_ireturn d_MO_block_133 rfl rfl ?_)
        exact mm_fiVS hk (mm_ifp c8 rfl)
      · skip
        replace hok := mm_okn hok c8
        refine a_go (by decide) (v_aload_n d_MO_block_95 rfl ?_)
        refine a_go (by decide) (v_iload_n d_MO_block_96 rfl ?_)
        refine a_go (by decide) (v_iload_n d_MO_block_97 rfl ?_)
        refine a_go (by decide) (v_iadd d_MO_block_98 ?_)
        refine a_go (by decide) (v_aload_n d_MO_block_99 rfl ?_)
        refine a_go (by decide) (v_getR d_MO_block_100 rfl rfl rfl ?_)
        refine a_go (by decide) (v_iload_n d_MO_block_103 rfl ?_)
        refine a_go (by decide) (v_callV d_MO_block_104 rfl (mm_spl 4 rfl) rfl (Nat.le_of_ble_eq_true rfl) rfl ?_)
        have o4 := And.left hok
        replace hok := And.right hok
        refine (i_m_programmed rfl o4 ?_)
        refine a_go (by decide) (v_if_ne d_MO_block_107 (t := 113) (by decide) (fun c9 => ?_) (fun c9 => ?_))
        · skip
          replace hok := mm_okn hok c9
          refine a_go (by decide) (v_iinc d_MO_block_113 (by decide) rfl ki_16 ?_)
          refine a_go (by decide) (v_goto d_MO_block_116 (t := 89) (by decide) ?_)
          refine a_cut (by decide) ⟨rfl, _, [(0, _), (2, _), (3, _)], ?_, (mm_all_c rfl (mm_all_c rfl (mm_all_c rfl (mm_all_n)))), ⟨rfl, _, _, _, rfl, rfl, hok, (mm_mvVS hk (mm_ifn c8 (mm_ifn c9 rfl)))⟩⟩
          exact Nat.lt_succ_self _
        · skip
          replace hok := mm_okp hok c9
          refine a_go (by decide) (v_bipush d_MO_block_110 kb_m106 ?_)
          refine a_go (by decide) (v_ireturn d_MO_block_112 rfl rfl ?_)
          exact mm_fiVS hk (mm_ifn c8 (mm_ifp c9 rfl))
