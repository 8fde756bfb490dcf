-- TwoSlots.make(IIII)I
def e_make (v0 : Int32) (v1 : Int32) (v2 : Int32) (v3 : Int32) (x : mm_S) : Int32 × mm_S :=
  if v1 < (1 : Int32) then
    ((-102 : Int32), x)
  else
    if (30 : Int32) < v1 then
      ((-102 : Int32), x)
    else
      if v2 < (0 : Int32) then
        ((-102 : Int32), x)
      else
        if v2 < (4 : Int32) then
          let x1 := mm_setI x 30 v0
          let x2 := mm_setI x1 31 v1
          let x3 := mm_setI x2 32 v2
          let x4 := mm_setI x3 33 v3
          ((1 : Int32), x4)
        else
          ((-102 : Int32), x)
def S_make : mm_P := fun as x K => ∃ (v0 : Int32) (v1 : Int32) (v2 : Int32) (v3 : Int32), as = [.ref 0, .int v0, .int v1, .int v2, .int v3] ∧ K (some (.int (e_make v0 v1 v2 v3 x).1)) (e_make v0 v1 v2 v3 x).2
theorem i_make {v0 : Int32} {v1 : Int32} {v2 : Int32} {v3 : Int32} {x : mm_S} {K : mm_K} (hk : K (some (.int (e_make v0 v1 v2 v3 x).1)) (e_make v0 v1 v2 v3 x).2) : S_make [.ref 0, .int v0, .int v1, .int v2, .int v3] x K := ⟨_, _, _, _, rfl, hk⟩
def G_make : mm_G := (FT_TS, CI_TS, CJ_TS, mm_tb [], mm_tb [], none)
def rm_make : Room := { frames := 0, cells := 0, slots := 0, locals := 0 }
set_option maxRecDepth 10000 in
theorem c_make (l : Launch) : mm_Con l NW CL TB LC y_TS_make b_TS_make 5 (some .int) rm_make S_make := by
  refine mm_con G_make [] (fun _ _ _ _ _ _ _ => False) (by decide +kernel) tb_good LC_u nw_nest ?_ rfl ft_TS ci_TS cj_TS ?_ ?_ ?_ ?_
  · rintro as x K ⟨v0, v1, v2, v3, rfl, -⟩
    exact Nat.le_of_ble_eq_true rfl
  · exact mm_tb_e (fun _ h => absurd h List.not_mem_nil)
  · exact mm_tb_e (fun _ h => absurd h List.not_mem_nil)
  · rintro as x K ⟨v0, v1, v2, v3, rfl, hk⟩
    refine ⟨400, ?_⟩
    refine v_iload_n d_TS_make_0 rfl ?_
    refine a_go (by decide) (v_iconst d_TS_make_1 ki_1 ?_)
    refine a_go (by decide) (v_icmp_lt d_TS_make_2 (t := 20) (by decide) (fun c1 => ?_) (fun c1 => ?_))
    · skip
      refine a_go (by decide) (v_bipush d_TS_make_20 kb_m102 ?_)
      refine a_go (by decide) (v_ireturn d_TS_make_22 rfl rfl ?_)
      exact mm_fiVS hk (mm_ifp c1 rfl)
    · skip
      refine a_go (by decide) (v_iload_n d_TS_make_5 rfl ?_)
      refine a_go (by decide) (v_bipush d_TS_make_6 kb_30 ?_)
      refine a_go (by decide) (v_icmp_gt d_TS_make_8 (t := 20) (by decide) (fun c2 => ?_) (fun c2 => ?_))
      · skip
        refine a_go (by decide) (v_bipush d_TS_make_20 kb_m102 ?_)
        refine a_go (by decide) (v_ireturn d_TS_make_22 rfl rfl ?_)
        exact mm_fiVS hk (mm_ifn c1 (mm_ifp c2 rfl))
      · skip
        refine a_go (by decide) (v_iload_n d_TS_make_11 rfl ?_)
        refine a_go (by decide) (v_if_lt d_TS_make_12 (t := 20) (by decide) (fun c3 => ?_) (fun c3 => ?_))
        · skip
          refine a_go (by decide) (v_bipush d_TS_make_20 kb_m102 ?_)
          refine a_go (by decide) (v_ireturn d_TS_make_22 rfl rfl ?_)
          exact mm_fiVS hk (mm_ifn c1 (mm_ifn c2 (mm_ifp c3 rfl)))
        · skip
          refine a_go (by decide) (v_iload_n d_TS_make_15 rfl ?_)
          refine a_go (by decide) (v_iconst d_TS_make_16 ki_4 ?_)
          refine a_go (by decide) (v_icmp_lt d_TS_make_17 (t := 23) (by decide) (fun c4 => ?_) (fun c4 => ?_))
          · skip
            refine a_go (by decide) (v_aload_n d_TS_make_23 rfl ?_)
            refine a_go (by decide) (v_getR d_TS_make_24 rfl rfl rfl ?_)
            refine a_go (by decide) (v_iload_n d_TS_make_27 rfl ?_)
            refine a_go (by decide) (v_putI d_TS_make_28 rfl rfl rfl ?_)
            refine a_go (by decide) (v_aload_n d_TS_make_31 rfl ?_)
            refine a_go (by decide) (v_getR d_TS_make_32 rfl rfl rfl ?_)
            refine a_go (by decide) (v_iload_n d_TS_make_35 rfl ?_)
            refine a_go (by decide) (v_putI d_TS_make_36 rfl rfl rfl ?_)
            refine a_go (by decide) (v_aload_n d_TS_make_39 rfl ?_)
            refine a_go (by decide) (v_getR d_TS_make_40 rfl rfl rfl ?_)
            refine a_go (by decide) (v_iload_n d_TS_make_43 rfl ?_)
            refine a_go (by decide) (v_putI d_TS_make_44 rfl rfl rfl ?_)
            refine a_go (by decide) (v_aload_n d_TS_make_47 rfl ?_)
            refine a_go (by decide) (v_getR d_TS_make_48 rfl rfl rfl ?_)
            refine a_go (by decide) (v_iload d_TS_make_51 rfl ?_)
            refine a_go (by decide) (v_putI d_TS_make_53 rfl rfl rfl ?_)
            refine a_go (by decide) (v_iconst d_TS_make_56 ki_1 ?_)
            refine a_go (by decide) (v_ireturn d_TS_make_57 rfl rfl ?_)
            exact mm_fiVS hk (mm_ifn c1 (mm_ifn c2 (mm_ifn c3 (mm_ifp c4 rfl))))
          · skip
            refine a_go (by decide) (v_bipush d_TS_make_20 kb_m102 ?_)
            refine a_go (by decide) (v_ireturn d_TS_make_22 rfl rfl ?_)
            exact mm_fiVS hk (mm_ifn c1 (mm_ifn c2 (mm_ifn c3 (mm_ifn c4 rfl))))
  · intro as x K _ k pc lv x' h
    cases h
-- TwoSlots.pack(I)I
def e_pack (v0 : Int32) (x : mm_S) : Int32 × mm_S :=
  if v0 < (-1 : Int32) then
    ((-101 : Int32), x)
  else
    if (x.1 31) ≤ v0 then
      ((-101 : Int32), x)
    else
      if (x.1 31) = (0 : Int32) then
        ((-101 : Int32), x)
      else
        if v0 = (-1 : Int32) then
          let q3 := e_mbdigest 64 0 x
          let x4 := e_hs_compose (q3.2.1 30) (q3.2.1 31) (q3.2.1 32) q3.1 (e_keyNumber (q3.2.1 32) q3.2) q3.2
          let x5 := e_copySector 64 3 (0 : Int32) 64 0 (0 : Int32) x4
          let x6 := mm_setI x5 0 (64 : Int32)
          (x6.1 0, x6)
        else
          let x1 := e_layBlock v0 64 0 x
          let x2 := mm_setI x1 0 (64 : Int32)
          (x2.1 0, x2)
def S_pack : mm_P := fun as x K => ∃ (v0 : Int32), as = [.ref 0, .int v0] ∧ K (some (.int (e_pack v0 x).1)) (e_pack v0 x).2
theorem i_pack {v0 : Int32} {x : mm_S} {K : mm_K} (hk : K (some (.int (e_pack v0 x).1)) (e_pack v0 x).2) : S_pack [.ref 0, .int v0] x K := ⟨_, rfl, hk⟩
def G_pack : mm_G := (FT_TS, CI_TS, CJ_TS, mm_tb [(113, 4, S_copySector)], mm_tb [(135, 3, 3, S_layBlock), (132, 2, 3, S_mbdigest), (99, 2, 0, S_keyNumber), (103, 6, 4, S_hs_compose)], none)
def rm_pack : Room := { frames := 3, cells := 0, slots := 0, locals := 77 }
set_option maxRecDepth 10000 in
theorem c_pack (l : Launch) : mm_Con l NW CL TB LC y_TS_pack b_TS_pack 4 (some .int) rm_pack S_pack := by
  refine mm_con G_pack [] (fun _ _ _ _ _ _ _ => False) (by decide +kernel) tb_good LC_u nw_nest ?_ rfl ft_TS ci_TS cj_TS ?_ ?_ ?_ ?_
  · rintro as x K ⟨v0, rfl, -⟩
    exact Nat.le_of_ble_eq_true rfl
  · exact mm_tb_e (List.forall_mem_cons.mpr ⟨mm_cst_i (c_copySector l) (mm_cb_i rfl rfl (by decide) (by decide) tc_TS_copySector ti_TS ⟨by decide, by decide, by decide +kernel⟩ (Or.inl tl_TS_113)) ts_TS_copySector, fun _ h => absurd h List.not_mem_nil⟩)
  · exact mm_tb_e (List.forall_mem_cons.mpr ⟨mm_cvt_i (c_layBlock l) (mm_cb_i rfl rfl (by decide) (by decide) tc_MK_layBlock ti_MK ⟨by decide, by decide, by decide +kernel⟩ (Or.inl tl_TS_135)) rfl tv_MK_layBlock tx_MK_layBlock, List.forall_mem_cons.mpr ⟨mm_cvt_i (c_mbdigest l) (mm_cb_i rfl rfl (by decide) (by decide) tc_MK_bodyDigest ti_MK ⟨by decide, by decide, by decide +kernel⟩ (Or.inl tl_TS_132)) rfl tv_MK_bodyDigest tx_MK_bodyDigest, List.forall_mem_cons.mpr ⟨mm_cvt_i (c_keyNumber l) (mm_cb_i rfl rfl (by decide) (by decide) tc_TS_keyNumber ti_TS ⟨by decide, by decide, by decide +kernel⟩ (Or.inl tl_TS_99)) rfl tv_TS_keyNumber tx_TS_keyNumber, List.forall_mem_cons.mpr ⟨mm_cvt_i (c_hs_compose l) (mm_cb_i rfl rfl (by decide) (by decide) tc_HD_compose ti_HD ⟨by decide, by decide, by decide +kernel⟩ (Or.inl tl_TS_103)) rfl tv_HD_compose tx_HD_compose, fun _ h => absurd h List.not_mem_nil⟩⟩⟩⟩)
  · rintro as x K ⟨v0, rfl, hk⟩
    refine ⟨400, ?_⟩
    refine v_iload_n d_TS_pack_0 rfl ?_
    refine a_go (by decide) (v_iconst d_TS_pack_1 ki_m1 ?_)
    refine a_go (by decide) (v_icmp_lt d_TS_pack_2 (t := 26) (by decide) (fun c1 => ?_) (fun c1 => ?_))
    · skip
      refine a_go (by decide) (v_bipush d_TS_pack_26 kb_m101 ?_)
      refine a_go (by decide) (v_ireturn d_TS_pack_28 rfl rfl ?_)
      exact mm_fiVS hk (mm_ifp c1 rfl)
    · skip
      refine a_go (by decide) (v_iload_n d_TS_pack_5 rfl ?_)
      refine a_go (by decide) (v_aload_n d_TS_pack_6 rfl ?_)
      refine a_go (by decide) (v_getR d_TS_pack_7 rfl rfl rfl ?_)
      refine a_go (by decide) (v_getI d_TS_pack_10 rfl rfl rfl ?_)
      refine a_go (by decide) (v_icmp_ge d_TS_pack_13 (t := 26) (by decide) (fun c2 => ?_) (fun c2 => ?_))
      · skip
        refine a_go (by decide) (v_bipush d_TS_pack_26 kb_m101 ?_)
        refine a_go (by decide) (v_ireturn d_TS_pack_28 rfl rfl ?_)
        exact mm_fiVS hk (mm_ifn c1 (mm_ifp c2 rfl))
      · skip
        refine a_go (by decide) (v_aload_n d_TS_pack_16 rfl ?_)
        refine a_go (by decide) (v_getR d_TS_pack_17 rfl rfl rfl ?_)
        refine a_go (by decide) (v_getI d_TS_pack_20 rfl rfl rfl ?_)
        refine a_go (by decide) (v_if_ne d_TS_pack_23 (t := 29) (by decide) (fun c3 => ?_) (fun c3 => ?_))
        · skip
          refine a_go (by decide) (v_iload_n d_TS_pack_29 rfl ?_)
          refine a_go (by decide) (v_iconst d_TS_pack_30 ki_m1 ?_)
          refine a_go (by decide) (v_icmp_ne d_TS_pack_31 (t := 105) (by decide) (fun c4 => ?_) (fun c4 => ?_))
          · skip
            refine a_go (by decide) (v_aload_n d_TS_pack_105 rfl ?_)
            refine a_go (by decide) (v_getR d_TS_pack_106 rfl rfl rfl ?_)
            refine a_go (by decide) (v_iload_n d_TS_pack_109 rfl ?_)
            refine a_go (by decide) (v_aload_n d_TS_pack_110 rfl ?_)
            refine a_go (by decide) (v_getR d_TS_pack_111 rfl rfl rfl ?_)
            refine a_go (by decide) (v_callV d_TS_pack_114 rfl (mm_spl 3 rfl) rfl (Nat.le_of_ble_eq_true rfl) rfl ?_)
            refine (i_layBlock rfl ?_)
            refine a_go (by decide) (v_aload_n d_TS_pack_117 rfl ?_)
            refine a_go (by decide) (v_bipush d_TS_pack_118 kb_64 ?_)
            refine a_go (by decide) (v_putI d_TS_pack_120 rfl rfl rfl ?_)
            refine a_go (by decide) (v_aload_n d_TS_pack_123 rfl ?_)
            refine a_go (by decide) (v_getI d_TS_pack_124 rfl rfl rfl ?_)
            refine a_go (by decide) (v_ireturn d_TS_pack_127 rfl rfl ?_)
            exact mm_fiVS hk (mm_ifn c1 (mm_ifn c2 (mm_ifn c3 (mm_ifn c4 rfl))))
          · skip
            refine a_go (by decide) (v_aload_n d_TS_pack_34 rfl ?_)
            refine a_go (by decide) (v_getR d_TS_pack_35 rfl rfl rfl ?_)
            refine a_go (by decide) (v_aload_n d_TS_pack_38 rfl ?_)
            refine a_go (by decide) (v_getR d_TS_pack_39 rfl rfl rfl ?_)
            refine a_go (by decide) (v_callV d_TS_pack_42 rfl (mm_spl 2 rfl) rfl (Nat.le_of_ble_eq_true rfl) rfl ?_)
            refine (i_mbdigest rfl ?_)
            refine a_go (by decide) (v_lstore_n d_TS_pack_45 (by decide) ?_)
            refine a_go (by decide) (v_aload_n d_TS_pack_46 rfl ?_)
            refine a_go (by decide) (v_getR d_TS_pack_47 rfl rfl rfl ?_)
            refine a_go (by decide) (v_aload_n d_TS_pack_50 rfl ?_)
            refine a_go (by decide) (v_getR d_TS_pack_51 rfl rfl rfl ?_)
            refine a_go (by decide) (v_getI d_TS_pack_54 rfl rfl rfl ?_)
            refine a_go (by decide) (v_aload_n d_TS_pack_57 rfl ?_)
            refine a_go (by decide) (v_getR d_TS_pack_58 rfl rfl rfl ?_)
            refine a_go (by decide) (v_getI d_TS_pack_61 rfl rfl rfl ?_)
            refine a_go (by decide) (v_aload_n d_TS_pack_64 rfl ?_)
            refine a_go (by decide) (v_getR d_TS_pack_65 rfl rfl rfl ?_)
            refine a_go (by decide) (v_getI d_TS_pack_68 rfl rfl rfl ?_)
            refine a_go (by decide) (v_lload_n d_TS_pack_71 rfl ?_)
            refine a_go (by decide) (v_aload_n d_TS_pack_72 rfl ?_)
            refine a_go (by decide) (v_aload_n d_TS_pack_73 rfl ?_)
            refine a_go (by decide) (v_getR d_TS_pack_74 rfl rfl rfl ?_)
            refine a_go (by decide) (v_getI d_TS_pack_77 rfl rfl rfl ?_)
            refine a_go (by decide) (v_callV d_TS_pack_80 rfl (mm_spl 2 rfl) rfl (Nat.le_of_ble_eq_true rfl) rfl ?_)
            refine (i_keyNumber ?_)
            refine a_go (by decide) (v_callV d_TS_pack_83 rfl (mm_spl 6 rfl) rfl (Nat.le_of_ble_eq_true rfl) rfl ?_)
            refine (i_hs_compose ?_)
            refine a_go (by decide) (v_aload_n d_TS_pack_86 rfl ?_)
            refine a_go (by decide) (v_getR d_TS_pack_87 rfl rfl rfl ?_)
            refine a_go (by decide) (v_getR d_TS_pack_90 rfl rfl rfl ?_)
            refine a_go (by decide) (v_iconst d_TS_pack_93 ki_0 ?_)
            refine a_go (by decide) (v_aload_n d_TS_pack_94 rfl ?_)
            refine a_go (by decide) (v_getR d_TS_pack_95 rfl rfl rfl ?_)
            refine a_go (by decide) (v_iconst d_TS_pack_98 ki_0 ?_)
            refine a_go (by decide) (v_callS d_TS_pack_99 rfl (mm_spl 4 rfl) rfl (Nat.le_of_ble_eq_true rfl) ?_)
            refine (i_copySector rfl rfl ?_)
            refine a_go (by decide) (v_goto d_TS_pack_102 (t := 117) (by decide) ?_)
            refine a_go (by decide) (v_aload_n d_TS_pack_117 rfl ?_)
            refine a_go (by decide) (v_bipush d_TS_pack_118 kb_64 ?_)
            refine a_go (by decide) (v_putI d_TS_pack_120 rfl rfl rfl ?_)
            refine a_go (by decide) (v_aload_n d_TS_pack_123 rfl ?_)
            refine a_go (by decide) (v_getI d_TS_pack_124 rfl rfl rfl ?_)
            refine a_go (by decide) (v_ireturn d_TS_pack_127 rfl rfl ?_)
            exact mm_fiVS hk (mm_ifn c1 (mm_ifn c2 (mm_ifn c3 (mm_ifp c4 rfl))))
        · skip
          refine a_go (by decide) (v_bipush d_TS_pack_26 kb_m101 ?_)
          refine a_go (by decide) (v_ireturn d_TS_pack_28 rfl rfl ?_)
          exact mm_fiVS hk (mm_ifn c1 (mm_ifn c2 (mm_ifp c3 rfl)))
  · intro as x K _ k pc lv x' h
    cases h
-- TwoSlots.alter(II)I
def e_alter (v0 : Int32) (v1 : Int32) (x : mm_S) : Int32 × mm_S :=
  if v0 < (0 : Int32) then
    ((-101 : Int32), x)
  else
    if v0 < (x.1 0) then
      let x1 := e_putByte 64 0 v0 ((e_byteAt 64 0 v0 x) ^^^ v1) x
      (e_byteAt 64 0 v0 x1, x1)
    else
      ((-101 : Int32), x)
def S_alter : mm_P := fun as x K => ∃ (v0 : Int32) (v1 : Int32), as = [.ref 0, .int v0, .int v1] ∧ K (some (.int (e_alter v0 v1 x).1)) (e_alter v0 v1 x).2
theorem i_alter {v0 : Int32} {v1 : Int32} {x : mm_S} {K : mm_K} (hk : K (some (.int (e_alter v0 v1 x).1)) (e_alter v0 v1 x).2) : S_alter [.ref 0, .int v0, .int v1] x K := ⟨_, _, rfl, hk⟩
def G_alter : mm_G := (FT_TS, CI_TS, CJ_TS, mm_tb [(139, 2, S_byteAt), (91, 3, S_putByte)], mm_tb [], none)
def rm_alter : Room := { frames := 1, cells := 0, slots := 0, locals := 22 }
set_option maxRecDepth 10000 in
theorem c_alter (l : Launch) : mm_Con l NW CL TB LC y_TS_alter b_TS_alter 3 (some .int) rm_alter S_alter := by
  refine mm_con G_alter [] (fun _ _ _ _ _ _ _ => False) (by decide +kernel) tb_good LC_u nw_nest ?_ rfl ft_TS ci_TS cj_TS ?_ ?_ ?_ ?_
  · rintro as x K ⟨v0, v1, rfl, -⟩
    exact Nat.le_of_ble_eq_true rfl
  · exact mm_tb_e (List.forall_mem_cons.mpr ⟨mm_cst_i (c_byteAt l) (mm_cb_i rfl rfl (by decide) (by decide) tc_TS_byteAt ti_TS ⟨by decide, by decide, by decide +kernel⟩ (Or.inl tl_TS_139)) ts_TS_byteAt, List.forall_mem_cons.mpr ⟨mm_cst_i (c_putByte l) (mm_cb_i rfl rfl (by decide) (by decide) tc_TS_putByte ti_TS ⟨by decide, by decide, by decide +kernel⟩ (Or.inl tl_TS_91)) ts_TS_putByte, fun _ h => absurd h List.not_mem_nil⟩⟩)
  · exact mm_tb_e (fun _ h => absurd h List.not_mem_nil)
  · rintro as x K ⟨v0, v1, rfl, hk⟩
    refine ⟨400, ?_⟩
    refine v_iload_n d_TS_alter_0 rfl ?_
    refine a_go (by decide) (v_if_lt d_TS_alter_1 (t := 12) (by decide) (fun c1 => ?_) (fun c1 => ?_))
    · skip
      refine a_go (by decide) (v_bipush d_TS_alter_12 kb_m101 ?_)
      refine a_go (by decide) (v_ireturn d_TS_alter_14 rfl rfl ?_)
      exact mm_fiVS hk (mm_ifp c1 rfl)
    · skip
      refine a_go (by decide) (v_iload_n d_TS_alter_4 rfl ?_)
      refine a_go (by decide) (v_aload_n d_TS_alter_5 rfl ?_)
      refine a_go (by decide) (v_getI d_TS_alter_6 rfl rfl rfl ?_)
      refine a_go (by decide) (v_icmp_lt d_TS_alter_9 (t := 15) (by decide) (fun c2 => ?_) (fun c2 => ?_))
      · skip
        refine a_go (by decide) (v_aload_n d_TS_alter_15 rfl ?_)
        refine a_go (by decide) (v_getR d_TS_alter_16 rfl rfl rfl ?_)
        refine a_go (by decide) (v_iload_n d_TS_alter_19 rfl ?_)
        refine a_go (by decide) (v_aload_n d_TS_alter_20 rfl ?_)
        refine a_go (by decide) (v_getR d_TS_alter_21 rfl rfl rfl ?_)
        refine a_go (by decide) (v_iload_n d_TS_alter_24 rfl ?_)
        refine a_go (by decide) (v_callS d_TS_alter_25 rfl (mm_spl 2 rfl) rfl (Nat.le_of_ble_eq_true rfl) ?_)
        refine (i_byteAt rfl ?_)
        refine a_go (by decide) (v_iload_n d_TS_alter_28 rfl ?_)
        refine a_go (by decide) (v_ixor d_TS_alter_29 ?_)
        refine a_go (by decide) (v_callS d_TS_alter_30 rfl (mm_spl 3 rfl) rfl (Nat.le_of_ble_eq_true rfl) ?_)
        refine (i_putByte rfl ?_)
        refine a_go (by decide) (v_aload_n d_TS_alter_33 rfl ?_)
        refine a_go (by decide) (v_getR d_TS_alter_34 rfl rfl rfl ?_)
        refine a_go (by decide) (v_iload_n d_TS_alter_37 rfl ?_)
        refine a_go (by decide) (v_callS d_TS_alter_38 rfl (mm_spl 2 rfl) rfl (Nat.le_of_ble_eq_true rfl) ?_)
        refine (i_byteAt rfl ?_)
        refine a_go (by decide) (v_ireturn d_TS_alter_41 rfl rfl ?_)
        exact mm_fiVS hk (mm_ifn c1 (mm_ifp c2 rfl))
      · skip
        refine a_go (by decide) (v_bipush d_TS_alter_12 kb_m101 ?_)
        refine a_go (by decide) (v_ireturn d_TS_alter_14 rfl rfl ?_)
        exact mm_fiVS hk (mm_ifn c1 (mm_ifn c2 rfl))
  · intro as x K _ k pc lv x' h
    cases h
-- TwoSlots.offer()I
def e_offer (x : mm_S) : Int32 × mm_S :=
  if (x.1 12) = (0 : Int32) then
    if (e_runsForGood x) = (0 : Int32) then
      ((-103 : Int32), x)
    else
      if (x.1 21) = (-1 : Int32) then
        ((-103 : Int32), x)
      else
        if (x.1 0) = (64 : Int32) then
          let x3 := mm_setI x 0 (0 : Int32)
          let x4 := e_copySector 64 0 (0 : Int32) 64 3 (0 : Int32) x3
          if (e_isRight x4) = (0 : Int32) then
            ((-105 : Int32), x4)
          else
            if (e_isBelow (e_hs_version x4) x4) = (0 : Int32) then
              let y5 := e_other (x4.1 23) x4
              let q6 := e_erase (e_hsec y5 x4) x4
              if q6.1 = (0 : Int32) then
                let q10 := e_lose q6.2
                (q10.1, q10.2)
              else
                let x7 := e_copySector 64 3 (0 : Int32) 64 4 (0 : Int32) q6.2
                let x8 := mm_setI x7 1 y5
                let x9 := mm_setI x8 2 (e_ho_size x8)
                (y5, x9)
            else
              ((-105 : Int32), x4)
        else
          let x1 := mm_setI x 0 (0 : Int32)
          let x2 := e_copySector 64 0 (0 : Int32) 64 3 (0 : Int32) x1
          ((-105 : Int32), x2)
  else
    ((-100 : Int32), x)
def S_offer : mm_P := fun as x K => as = [.ref 0] ∧ K (some (.int (e_offer x).1)) (e_offer x).2
theorem i_offer {x : mm_S} {K : mm_K} (hk : K (some (.int (e_offer x).1)) (e_offer x).2) : S_offer [.ref 0] x K := ⟨rfl, hk⟩
def G_offer : mm_G := (FT_TS, CI_TS, CJ_TS, mm_tb [(113, 4, S_copySector), (167, 1, S_other), (110, 1, S_hsec)], mm_tb [(147, 1, 0, S_runsForGood), (154, 1, 0, S_isRight), (157, 1, 4, S_hs_version), (160, 2, 0, S_isBelow), (170, 2, 1, S_erase), (176, 1, 4, S_ho_size), (173, 1, 0, S_lose)], none)
def rm_offer : Room := { frames := 4, cells := 0, slots := 0, locals := 92 }
set_option maxRecDepth 10000 in
theorem c_offer (l : Launch) : mm_Con l NW CL TB LC y_TS_offer b_TS_offer 3 (some .int) rm_offer S_offer := by
  refine mm_con G_offer [] (fun _ _ _ _ _ _ _ => False) (by decide +kernel) tb_good LC_u nw_nest ?_ rfl ft_TS ci_TS cj_TS ?_ ?_ ?_ ?_
  · rintro as x K ⟨rfl, -⟩
    exact Nat.le_of_ble_eq_true rfl
  · exact mm_tb_e (List.forall_mem_cons.mpr ⟨mm_cst_i (c_copySector l) (mm_cb_i rfl rfl (by decide) (by decide) tc_TS_copySector ti_TS ⟨by decide, by decide, by decide +kernel⟩ (Or.inl tl_TS_113)) ts_TS_copySector, List.forall_mem_cons.mpr ⟨mm_cst_i (c_other l) (mm_cb_i rfl rfl (by decide) (by decide) tc_TS_otherThan ti_TS ⟨by decide, by decide, by decide +kernel⟩ (Or.inl tl_TS_167)) ts_TS_otherThan, List.forall_mem_cons.mpr ⟨mm_cst_i (c_hsec l) (mm_cb_i rfl rfl (by decide) (by decide) tc_TS_headerSector ti_TS ⟨by decide, by decide, by decide +kernel⟩ (Or.inl tl_TS_110)) ts_TS_headerSector, fun _ h => absurd h List.not_mem_nil⟩⟩⟩)
  · exact mm_tb_e (List.forall_mem_cons.mpr ⟨mm_cvt_i (c_runsForGood l) (mm_cb_i rfl rfl (by decide) (by decide) tc_TS_runsForGood ti_TS ⟨by decide, by decide, by decide +kernel⟩ (Or.inl tl_TS_147)) rfl tv_TS_runsForGood tx_TS_runsForGood, List.forall_mem_cons.mpr ⟨mm_cvt_i (c_isRight l) (mm_cb_i rfl rfl (by decide) (by decide) tc_TS_isSheetRight ti_TS ⟨by decide, by decide, by decide +kernel⟩ (Or.inl tl_TS_154)) rfl tv_TS_isSheetRight tx_TS_isSheetRight, List.forall_mem_cons.mpr ⟨mm_cvt_i (c_hs_version l) (mm_cb_i rfl rfl (by decide) (by decide) tc_HD_version ti_HD ⟨by decide, by decide, by decide +kernel⟩ (Or.inl tl_TS_157)) rfl tv_HD_version tx_HD_version, List.forall_mem_cons.mpr ⟨mm_cvt_i (c_isBelow l) (mm_cb_i rfl rfl (by decide) (by decide) tc_TS_isBelowCounter ti_TS ⟨by decide, by decide, by decide +kernel⟩ (Or.inl tl_TS_160)) rfl tv_TS_isBelowCounter tx_TS_isBelowCounter, List.forall_mem_cons.mpr ⟨mm_cvt_i (c_erase l) (mm_cb_i rfl rfl (by decide) (by decide) tc_FL_erase ti_FL ⟨by decide, by decide, by decide +kernel⟩ (Or.inl tl_TS_170)) rfl tv_FL_erase tx_FL_erase, List.forall_mem_cons.mpr ⟨mm_cvt_i (c_ho_size l) (mm_cb_i rfl rfl (by decide) (by decide) tc_HD_size ti_HD ⟨by decide, by decide, by decide +kernel⟩ (Or.inl tl_TS_176)) rfl tv_HD_size tx_HD_size, List.forall_mem_cons.mpr ⟨mm_cvt_i (c_lose l) (mm_cb_i rfl rfl (by decide) (by decide) tc_TS_lose ti_TS ⟨by decide, by decide, by decide +kernel⟩ (Or.inl tl_TS_173)) rfl tv_TS_lose tx_TS_lose, fun _ h => absurd h List.not_mem_nil⟩⟩⟩⟩⟩⟩⟩)
  · rintro as x K ⟨rfl, hk⟩
    refine ⟨400, ?_⟩
    refine v_aload_n d_TS_offer_0 rfl ?_
    refine a_go (by decide) (v_getR d_TS_offer_1 rfl rfl rfl ?_)
    refine a_go (by decide) (v_getI d_TS_offer_4 rfl rfl rfl ?_)
    refine a_go (by decide) (v_if_eq d_TS_offer_7 (t := 13) (by decide) (fun c1 => ?_) (fun c1 => ?_))
    · skip
      refine a_go (by decide) (v_aload_n d_TS_offer_13 rfl ?_)
      refine a_go (by decide) (v_callV d_TS_offer_14 rfl (mm_spl 1 rfl) rfl (Nat.le_of_ble_eq_true rfl) rfl ?_)
      refine (i_runsForGood ?_)
      refine a_go (by decide) (v_if_eq d_TS_offer_17 (t := 31) (by decide) (fun c2 => ?_) (fun c2 => ?_))
      · skip
        refine a_go (by decide) (v_bipush d_TS_offer_31 kb_m103 ?_)
        refine a_go (by decide) (v_ireturn d_TS_offer_33 rfl rfl ?_)
        exact mm_fiVS hk (mm_ifp c1 (mm_ifp c2 rfl))
      · skip
        refine a_go (by decide) (v_aload_n d_TS_offer_20 rfl ?_)
        refine a_go (by decide) (v_getR d_TS_offer_21 rfl rfl rfl ?_)
        refine a_go (by decide) (v_getI d_TS_offer_24 rfl rfl rfl ?_)
        refine a_go (by decide) (v_iconst d_TS_offer_27 ki_m1 ?_)
        refine a_go (by decide) (v_icmp_ne d_TS_offer_28 (t := 34) (by decide) (fun c3 => ?_) (fun c3 => ?_))
        · skip
          refine a_go (by decide) (v_aload_n d_TS_offer_34 rfl ?_)
          refine a_go (by decide) (v_getI d_TS_offer_35 rfl rfl rfl ?_)
          refine a_go (by decide) (v_bipush d_TS_offer_38 kb_64 ?_)
          refine a_go (by decide) (v_icmp_ne d_TS_offer_40 (t := 47) (by decide) (fun c4 => ?_) (fun c4 => ?_))
          · skip
            refine a_go (by decide) (v_iconst d_TS_offer_47 ki_0 ?_)
            refine a_go (by decide) (v_istore_n d_TS_offer_48 (by decide) ?_)
            refine a_go (by decide) (v_aload_n d_TS_offer_49 rfl ?_)
            refine a_go (by decide) (v_iconst d_TS_offer_50 ki_0 ?_)
            refine a_go (by decide) (v_putI d_TS_offer_51 rfl rfl rfl ?_)
            refine a_go (by decide) (v_aload_n d_TS_offer_54 rfl ?_)
            refine a_go (by decide) (v_getR d_TS_offer_55 rfl rfl rfl ?_)
            refine a_go (by decide) (v_iconst d_TS_offer_58 ki_0 ?_)
            refine a_go (by decide) (v_aload_n d_TS_offer_59 rfl ?_)
            refine a_go (by decide) (v_getR d_TS_offer_60 rfl rfl rfl ?_)
            refine a_go (by decide) (v_getR d_TS_offer_63 rfl rfl rfl ?_)
            refine a_go (by decide) (v_iconst d_TS_offer_66 ki_0 ?_)
            refine a_go (by decide) (v_callS d_TS_offer_67 rfl (mm_spl 4 rfl) rfl (Nat.le_of_ble_eq_true rfl) ?_)
            refine (i_copySector rfl rfl ?_)
            refine a_go (by decide) (v_iload_n d_TS_offer_70 rfl ?_)
            refine a_go (by decide) (v_if_eq d_TS_offer_71 (t := 95) (by decide) (fun c5 => ?_) (fun c5 => absurd c5 (by decide)))
            refine a_go (by decide) (v_bipush d_TS_offer_95 kb_m105 ?_)
            refine a_go (by decide) (v_ireturn d_TS_offer_97 rfl rfl ?_)
            exact mm_fiVS hk (mm_ifp c1 (mm_ifn c2 (mm_ifn c3 (mm_ifn c4 rfl))))
          · skip
            refine a_go (by decide) (v_iconst d_TS_offer_43 ki_1 ?_)
            refine a_go (by decide) (v_goto d_TS_offer_44 (t := 48) (by decide) ?_)
            refine a_go (by decide) (v_istore_n d_TS_offer_48 (by decide) ?_)
            refine a_go (by decide) (v_aload_n d_TS_offer_49 rfl ?_)
            refine a_go (by decide) (v_iconst d_TS_offer_50 ki_0 ?_)
            refine a_go (by decide) (v_putI d_TS_offer_51 rfl rfl rfl ?_)
            refine a_go (by decide) (v_aload_n d_TS_offer_54 rfl ?_)
            refine a_go (by decide) (v_getR d_TS_offer_55 rfl rfl rfl ?_)
            refine a_go (by decide) (v_iconst d_TS_offer_58 ki_0 ?_)
            refine a_go (by decide) (v_aload_n d_TS_offer_59 rfl ?_)
            refine a_go (by decide) (v_getR d_TS_offer_60 rfl rfl rfl ?_)
            refine a_go (by decide) (v_getR d_TS_offer_63 rfl rfl rfl ?_)
            refine a_go (by decide) (v_iconst d_TS_offer_66 ki_0 ?_)
            refine a_go (by decide) (v_callS d_TS_offer_67 rfl (mm_spl 4 rfl) rfl (Nat.le_of_ble_eq_true rfl) ?_)
            refine (i_copySector rfl rfl ?_)
            refine a_go (by decide) (v_iload_n d_TS_offer_70 rfl ?_)
            refine a_go (by decide) (v_if_eq d_TS_offer_71 (t := 95) (by decide) (fun c6 => absurd c6 (by decide)) (fun c6 => ?_))
            refine a_go (by decide) (v_aload_n d_TS_offer_74 rfl ?_)
            refine a_go (by decide) (v_callV d_TS_offer_75 rfl (mm_spl 1 rfl) rfl (Nat.le_of_ble_eq_true rfl) rfl ?_)
            refine (i_isRight ?_)
            refine a_go (by decide) (v_if_eq d_TS_offer_78 (t := 95) (by decide) (fun c7 => ?_) (fun c7 => ?_))
            · skip
              refine a_go (by decide) (v_bipush d_TS_offer_95 kb_m105 ?_)
              refine a_go (by decide) (v_ireturn d_TS_offer_97 rfl rfl ?_)
              exact mm_fiVS hk (mm_ifp c1 (mm_ifn c2 (mm_ifn c3 (mm_ifp c4 (mm_ifp c7 rfl)))))
            · skip
              refine a_go (by decide) (v_aload_n d_TS_offer_81 rfl ?_)
              refine a_go (by decide) (v_aload_n d_TS_offer_82 rfl ?_)
              refine a_go (by decide) (v_getR d_TS_offer_83 rfl rfl rfl ?_)
              refine a_go (by decide) (v_callV d_TS_offer_86 rfl (mm_spl 1 rfl) rfl (Nat.le_of_ble_eq_true rfl) rfl ?_)
              refine (i_hs_version ?_)
              refine a_go (by decide) (v_callV d_TS_offer_89 rfl (mm_spl 2 rfl) rfl (Nat.le_of_ble_eq_true rfl) rfl ?_)
              refine (i_isBelow ?_)
              refine a_go (by decide) (v_if_eq d_TS_offer_92 (t := 98) (by decide) (fun c8 => ?_) (fun c8 => ?_))
              · skip
                refine a_go (by decide) (v_aload_n d_TS_offer_98 rfl ?_)
                refine a_go (by decide) (v_getR d_TS_offer_99 rfl rfl rfl ?_)
                refine a_go (by decide) (v_getI d_TS_offer_102 rfl rfl rfl ?_)
                refine a_go (by decide) (v_callS d_TS_offer_105 rfl (mm_spl 1 rfl) rfl (Nat.le_of_ble_eq_true rfl) ?_)
                refine (i_other ?_)
                refine a_go (by decide) (v_istore_n d_TS_offer_108 (by decide) ?_)
                refine a_go (by decide) (v_aload_n d_TS_offer_109 rfl ?_)
                refine a_go (by decide) (v_getR d_TS_offer_110 rfl rfl rfl ?_)
                refine a_go (by decide) (v_iload_n d_TS_offer_113 rfl ?_)
                refine a_go (by decide) (v_callS d_TS_offer_114 rfl (mm_spl 1 rfl) rfl (Nat.le_of_ble_eq_true rfl) ?_)
                refine (i_hsec ?_)
                refine a_go (by decide) (v_callV d_TS_offer_117 rfl (mm_spl 2 rfl) rfl (Nat.le_of_ble_eq_true rfl) rfl ?_)
                refine (i_erase ?_)
                refine a_go (by decide) (v_if_ne d_TS_offer_120 (t := 128) (by decide) (fun c9 => ?_) (fun c9 => ?_))
                · skip
                  refine a_go (by decide) (v_aload_n d_TS_offer_128 rfl ?_)
                  refine a_go (by decide) (v_getR d_TS_offer_129 rfl rfl rfl ?_)
                  refine a_go (by decide) (v_getR d_TS_offer_132 rfl rfl rfl ?_)
                  refine a_go (by decide) (v_iconst d_TS_offer_135 ki_0 ?_)
                  refine a_go (by decide) (v_aload_n d_TS_offer_136 rfl ?_)
                  refine a_go (by decide) (v_getR d_TS_offer_137 rfl rfl rfl ?_)
                  refine a_go (by decide) (v_getR d_TS_offer_140 rfl rfl rfl ?_)
                  refine a_go (by decide) (v_iconst d_TS_offer_143 ki_0 ?_)
                  refine a_go (by decide) (v_callS d_TS_offer_144 rfl (mm_spl 4 rfl) rfl (Nat.le_of_ble_eq_true rfl) ?_)
                  refine (i_copySector rfl rfl ?_)
                  refine a_go (by decide) (v_aload_n d_TS_offer_147 rfl ?_)
                  refine a_go (by decide) (v_iload_n d_TS_offer_148 rfl ?_)
                  refine a_go (by decide) (v_putI d_TS_offer_149 rfl rfl rfl ?_)
                  refine a_go (by decide) (v_aload_n d_TS_offer_152 rfl ?_)
                  refine a_go (by decide) (v_aload_n d_TS_offer_153 rfl ?_)
                  refine a_go (by decide) (v_getR d_TS_offer_154 rfl rfl rfl ?_)
                  refine a_go (by decide) (v_callV d_TS_offer_157 rfl (mm_spl 1 rfl) rfl (Nat.le_of_ble_eq_true rfl) rfl ?_)
                  refine (i_ho_size ?_)
                  refine a_go (by decide) (v_putI d_TS_offer_160 rfl rfl rfl ?_)
                  refine a_go (by decide) (v_iload_n d_TS_offer_163 rfl ?_)
                  refine a_go (by decide) (v_ireturn d_TS_offer_164 rfl rfl ?_)
                  exact mm_fiVS hk (mm_ifp c1 (mm_ifn c2 (mm_ifn c3 (mm_ifp c4 (mm_ifn c7 (mm_ifp c8 (mm_ifn c9 rfl)))))))
                · skip
                  refine a_go (by decide) (v_aload_n d_TS_offer_123 rfl ?_)
                  refine a_go (by decide) (v_callV d_TS_offer_124 rfl (mm_spl 1 rfl) rfl (Nat.le_of_ble_eq_true rfl) rfl ?_)
                  refine (i_lose ?_)
                  refine a_go (by decide) (v_ireturn d_TS_offer_127 rfl rfl ?_)
                  exact mm_fiVS hk (mm_ifp c1 (mm_ifn c2 (mm_ifn c3 (mm_ifp c4 (mm_ifn c7 (mm_ifp c8 (mm_ifp c9 rfl)))))))
              · skip
                refine a_go (by decide) (v_bipush d_TS_offer_95 kb_m105 ?_)
                refine a_go (by decide) (v_ireturn d_TS_offer_97 rfl rfl ?_)
                exact mm_fiVS hk (mm_ifp c1 (mm_ifn c2 (mm_ifn c3 (mm_ifp c4 (mm_ifn c7 (mm_ifn c8 rfl))))))
        · skip
          refine a_go (by decide) (v_bipush d_TS_offer_31 kb_m103 ?_)
          refine a_go (by decide) (v_ireturn d_TS_offer_33 rfl rfl ?_)
          exact mm_fiVS hk (mm_ifp c1 (mm_ifn c2 (mm_ifp c3 rfl)))
    · skip
      refine a_go (by decide) (v_bipush d_TS_offer_10 kb_m100 ?_)
      refine a_go (by decide) (v_ireturn d_TS_offer_12 rfl rfl ?_)
      exact mm_fiVS hk (mm_ifn c1 rfl)
  · intro as x K _ k pc lv x' h
    cases h
-- TwoSlots.block()I
def e_block (x : mm_S) : Int32 × mm_S :=
  if (x.1 12) = (0 : Int32) then
    if (x.1 1) = (-1 : Int32) then
      ((-103 : Int32), x)
    else
      if (x.1 2) = (0 : Int32) then
        ((-103 : Int32), x)
      else
        if (x.1 0) = (64 : Int32) then
          let x1 := mm_setI x 0 (0 : Int32)
          let y2 := (((e_hsec (x1.1 1) x1) + (1 : Int32)) + (e_ho_size x1)) - (x1.1 2)
          let q3 := e_erase y2 x1
          if q3.1 = (0 : Int32) then
            let q4 := e_lose q3.2
            (q4.1, q4.2)
          else
            let q5 := e_psector y2 64 0 q3.2
            if q5.1 = (0 : Int32) then
              let q7 := e_lose q5.2
              (q7.1, q7.2)
            else
              let x6 := mm_setI q5.2 2 ((q5.2.1 2) - (1 : Int32))
              (x6.1 2, x6)
        else
          ((-105 : Int32), x)
  else
    ((-100 : Int32), x)
def S_block : mm_P := fun as x K => as = [.ref 0] ∧ K (some (.int (e_block x).1)) (e_block x).2
theorem i_block {x : mm_S} {K : mm_K} (hk : K (some (.int (e_block x).1)) (e_block x).2) : S_block [.ref 0] x K := ⟨rfl, hk⟩
def G_block : mm_G := (FT_TS, CI_TS, CJ_TS, mm_tb [(110, 1, S_hsec)], mm_tb [(176, 1, 4, S_ho_size), (170, 2, 1, S_erase), (173, 1, 0, S_lose), (178, 3, 1, S_psector)], none)
def rm_block : Room := { frames := 3, cells := 0, slots := 0, locals := 70 }
set_option maxRecDepth 10000 in
theorem c_block (l : Launch) : mm_Con l NW CL TB LC y_TS_block b_TS_block 2 (some .int) rm_block S_block := by
  refine mm_con G_block [] (fun _ _ _ _ _ _ _ => False) (by decide +kernel) tb_good LC_u nw_nest ?_ rfl ft_TS ci_TS cj_TS ?_ ?_ ?_ ?_
  · rintro as x K ⟨rfl, -⟩
    exact Nat.le_of_ble_eq_true rfl
  · exact mm_tb_e (List.forall_mem_cons.mpr ⟨mm_cst_i (c_hsec l) (mm_cb_i rfl rfl (by decide) (by decide) tc_TS_headerSector ti_TS ⟨by decide, by decide, by decide +kernel⟩ (Or.inl tl_TS_110)) ts_TS_headerSector, fun _ h => absurd h List.not_mem_nil⟩)
  · exact mm_tb_e (List.forall_mem_cons.mpr ⟨mm_cvt_i (c_ho_size l) (mm_cb_i rfl rfl (by decide) (by decide) tc_HD_size ti_HD ⟨by decide, by decide, by decide +kernel⟩ (Or.inl tl_TS_176)) rfl tv_HD_size tx_HD_size, List.forall_mem_cons.mpr ⟨mm_cvt_i (c_erase l) (mm_cb_i rfl rfl (by decide) (by decide) tc_FL_erase ti_FL ⟨by decide, by decide, by decide +kernel⟩ (Or.inl tl_TS_170)) rfl tv_FL_erase tx_FL_erase, List.forall_mem_cons.mpr ⟨mm_cvt_i (c_lose l) (mm_cb_i rfl rfl (by decide) (by decide) tc_TS_lose ti_TS ⟨by decide, by decide, by decide +kernel⟩ (Or.inl tl_TS_173)) rfl tv_TS_lose tx_TS_lose, List.forall_mem_cons.mpr ⟨mm_cvt_i (c_psector l) (mm_cb_i rfl rfl (by decide) (by decide) tc_FL_programSector ti_FL ⟨by decide, by decide, by decide +kernel⟩ (Or.inl tl_TS_178)) rfl tv_FL_programSector tx_FL_programSector, fun _ h => absurd h List.not_mem_nil⟩⟩⟩⟩)
  · rintro as x K ⟨rfl, hk⟩
    refine ⟨400, ?_⟩
    refine v_aload_n d_TS_block_0 rfl ?_
    refine a_go (by decide) (v_getR d_TS_block_1 rfl rfl rfl ?_)
    refine a_go (by decide) (v_getI d_TS_block_4 rfl rfl rfl ?_)
    refine a_go (by decide) (v_if_eq d_TS_block_7 (t := 13) (by decide) (fun c1 => ?_) (fun c1 => ?_))
    · skip
      refine a_go (by decide) (v_aload_n d_TS_block_13 rfl ?_)
      refine a_go (by decide) (v_getI d_TS_block_14 rfl rfl rfl ?_)
      refine a_go (by decide) (v_iconst d_TS_block_17 ki_m1 ?_)
      refine a_go (by decide) (v_icmp_eq d_TS_block_18 (t := 28) (by decide) (fun c2 => ?_) (fun c2 => ?_))
      · skip
        refine a_go (by decide) (v_bipush d_TS_block_28 kb_m103 ?_)
        refine a_go (by decide) (v_ireturn d_TS_block_30 rfl rfl ?_)
        exact mm_fiVS hk (mm_ifp c1 (mm_ifp c2 rfl))
      · skip
        refine a_go (by decide) (v_aload_n d_TS_block_21 rfl ?_)
        refine a_go (by decide) (v_getI d_TS_block_22 rfl rfl rfl ?_)
        refine a_go (by decide) (v_if_ne d_TS_block_25 (t := 31) (by decide) (fun c3 => ?_) (fun c3 => ?_))
        · skip
          refine a_go (by decide) (v_aload_n d_TS_block_31 rfl ?_)
          refine a_go (by decide) (v_getI d_TS_block_32 rfl rfl rfl ?_)
          refine a_go (by decide) (v_bipush d_TS_block_35 kb_64 ?_)
          refine a_go (by decide) (v_icmp_eq d_TS_block_37 (t := 43) (by decide) (fun c4 => ?_) (fun c4 => ?_))
          · skip
            refine a_go (by decide) (v_aload_n d_TS_block_43 rfl ?_)
            refine a_go (by decide) (v_iconst d_TS_block_44 ki_0 ?_)
            refine a_go (by decide) (v_putI d_TS_block_45 rfl rfl rfl ?_)
            refine a_go (by decide) (v_aload_n d_TS_block_48 rfl ?_)
            refine a_go (by decide) (v_getI d_TS_block_49 rfl rfl rfl ?_)
            refine a_go (by decide) (v_callS d_TS_block_52 rfl (mm_spl 1 rfl) rfl (Nat.le_of_ble_eq_true rfl) ?_)
            refine (i_hsec ?_)
            refine a_go (by decide) (v_iconst d_TS_block_55 ki_1 ?_)
            refine a_go (by decide) (v_iadd d_TS_block_56 ?_)
            refine a_go (by decide) (v_aload_n d_TS_block_57 rfl ?_)
            refine a_go (by decide) (v_getR d_TS_block_58 rfl rfl rfl ?_)
            refine a_go (by decide) (v_callV d_TS_block_61 rfl (mm_spl 1 rfl) rfl (Nat.le_of_ble_eq_true rfl) rfl ?_)
            refine (i_ho_size ?_)
            refine a_go (by decide) (v_iadd d_TS_block_64 ?_)
            refine a_go (by decide) (v_aload_n d_TS_block_65 rfl ?_)
            refine a_go (by decide) (v_getI d_TS_block_66 rfl rfl rfl ?_)
            refine a_go (by decide) (v_isub d_TS_block_69 ?_)
            refine a_go (by decide) (v_istore_n d_TS_block_70 (by decide) ?_)
            refine a_go (by decide) (v_aload_n d_TS_block_71 rfl ?_)
            refine a_go (by decide) (v_getR d_TS_block_72 rfl rfl rfl ?_)
            refine a_go (by decide) (v_iload_n d_TS_block_75 rfl ?_)
            refine a_go (by decide) (v_callV d_TS_block_76 rfl (mm_spl 2 rfl) rfl (Nat.le_of_ble_eq_true rfl) rfl ?_)
            refine (i_erase ?_)
            refine a_go (by decide) (v_if_eq d_TS_block_79 (t := 97) (by decide) (fun c5 => ?_) (fun c5 => ?_))
            · skip
              refine a_go (by decide) (v_aload_n d_TS_block_97 rfl ?_)
              refine a_go (by decide) (v_callV d_TS_block_98 rfl (mm_spl 1 rfl) rfl (Nat.le_of_ble_eq_true rfl) rfl ?_)
              refine (i_lose ?_)
              refine a_go (by decide) (v_ireturn d_TS_block_101 rfl rfl ?_)
              exact mm_fiVS hk (mm_ifp c1 (mm_ifn c2 (mm_ifn c3 (mm_ifp c4 (mm_ifp c5 rfl)))))
            · skip
              refine a_go (by decide) (v_aload_n d_TS_block_82 rfl ?_)
              refine a_go (by decide) (v_getR d_TS_block_83 rfl rfl rfl ?_)
              refine a_go (by decide) (v_iload_n d_TS_block_86 rfl ?_)
              refine a_go (by decide) (v_aload_n d_TS_block_87 rfl ?_)
              refine a_go (by decide) (v_getR d_TS_block_88 rfl rfl rfl ?_)
              refine a_go (by decide) (v_callV d_TS_block_91 rfl (mm_spl 3 rfl) rfl (Nat.le_of_ble_eq_true rfl) rfl ?_)
              refine (i_psector rfl ?_)
              refine a_go (by decide) (v_if_ne d_TS_block_94 (t := 102) (by decide) (fun c6 => ?_) (fun c6 => ?_))
              · skip
                refine a_go (by decide) (v_aload_n d_TS_block_102 rfl ?_)
                refine a_go (by decide) (v_dup d_TS_block_103 rfl ?_)
                refine a_go (by decide) (v_getI d_TS_block_104 rfl rfl rfl ?_)
                refine a_go (by decide) (v_iconst d_TS_block_107 ki_1 ?_)
                refine a_go (by decide) (v_isub d_TS_block_108 ?_)
                refine a_go (by decide) (v_putI d_TS_block_109 rfl rfl rfl ?_)
                refine a_go (by decide) (v_aload_n d_TS_block_112 rfl ?_)
                refine a_go (by decide) (v_getI d_TS_block_113 rfl rfl rfl ?_)
                refine a_go (by decide) (v_ireturn d_TS_block_116 rfl rfl ?_)
                exact mm_fiVS hk (mm_ifp c1 (mm_ifn c2 (mm_ifn c3 (mm_ifp c4 (mm_ifn c5 (mm_ifn c6 rfl))))))
              · skip
                refine a_go (by decide) (v_aload_n d_TS_block_97 rfl ?_)
                refine a_go (by decide) (v_callV d_TS_block_98 rfl (mm_spl 1 rfl) rfl (Nat.le_of_ble_eq_true rfl) rfl ?_)
                refine (i_lose ?_)
                refine a_go (by decide) (v_ireturn d_TS_block_101 rfl rfl ?_)
                exact mm_fiVS hk (mm_ifp c1 (mm_ifn c2 (mm_ifn c3 (mm_ifp c4 (mm_ifn c5 (mm_ifp c6 rfl))))))
          · skip
            refine a_go (by decide) (v_bipush d_TS_block_40 kb_m105 ?_)
            refine a_go (by decide) (v_ireturn d_TS_block_42 rfl rfl ?_)
            exact mm_fiVS hk (mm_ifp c1 (mm_ifn c2 (mm_ifn c3 (mm_ifn c4 rfl))))
        · skip
          refine a_go (by decide) (v_bipush d_TS_block_28 kb_m103 ?_)
          refine a_go (by decide) (v_ireturn d_TS_block_30 rfl rfl ?_)
          exact mm_fiVS hk (mm_ifp c1 (mm_ifn c2 (mm_ifp c3 rfl)))
    · skip
      refine a_go (by decide) (v_bipush d_TS_block_10 kb_m100 ?_)
      refine a_go (by decide) (v_ireturn d_TS_block_12 rfl rfl ?_)
      exact mm_fiVS hk (mm_ifn c1 rfl)
  · intro as x K _ k pc lv x' h
    cases h
-- TwoSlots.finish()I
def e_finish (x : mm_S) : Int32 × mm_S :=
  if (x.1 12) = (0 : Int32) then
    if (x.1 1) = (-1 : Int32) then
      ((-103 : Int32), x)
    else
      if (0 : Int32) < (x.1 2) then
        ((-103 : Int32), x)
      else
        if (x.1 21) = (-1 : Int32) then
          ((-103 : Int32), x)
        else
          let y1 := x.1 1
          if (lg_cmp (e_bdigest y1 (e_ho_version x) (e_ho_size x) x) (e_ho_bdigest x)) = (0 : Int32) then
            let q2 := e_psector (e_hsec y1 x) 64 4 x
            if q2.1 = (0 : Int32) then
              let q3 := e_lose q2.2
              (q3.1, q3.2)
            else
              let q4 := e_appTrying y1 (3 : Int32) q2.2
              if q4.1 = (0 : Int32) then
                let q7 := e_lose q4.2
                (q7.1, q7.2)
              else
                let x5 := e_dropOffer q4.2
                let x6 := mm_setI x5 8 ((x5.1 8) + (1 : Int32))
                (y1, x6)
          else
            let x8 := e_dropOffer x
            ((-105 : Int32), x8)
  else
    ((-100 : Int32), x)
def S_finish : mm_P := fun as x K => as = [.ref 0] ∧ (mm_J x) ∧ K (some (.int (e_finish x).1)) (e_finish x).2
theorem i_finish {x : mm_S} {K : mm_K} (hpre : (mm_J x)) (hk : K (some (.int (e_finish x).1)) (e_finish x).2) : S_finish [.ref 0] x K := ⟨rfl, hpre, hk⟩
def G_finish : mm_G := (FT_TS, CI_TS, CJ_TS, mm_tb [(110, 1, S_hsec)], mm_tb [(157, 1, 4, S_ho_version), (176, 1, 4, S_ho_size), (95, 4, 0, S_bdigest), (182, 1, 4, S_ho_bdigest), (178, 3, 1, S_psector), (173, 1, 0, S_lose), (188, 3, 2, S_appTrying), (185, 1, 0, S_dropOffer)], none)
def rm_finish : Room := { frames := 5, cells := 0, slots := 0, locals := 122 }
set_option maxRecDepth 10000 in
theorem c_finish (l : Launch) : mm_Con l NW CL TB LC y_TS_finish b_TS_finish 2 (some .int) rm_finish S_finish := by
  refine mm_con G_finish [] (fun _ _ _ _ _ _ _ => False) (by decide +kernel) tb_good LC_u nw_nest ?_ rfl ft_TS ci_TS cj_TS ?_ ?_ ?_ ?_
  · rintro as x K ⟨rfl, -⟩
    exact Nat.le_of_ble_eq_true rfl
  · exact mm_tb_e (List.forall_mem_cons.mpr ⟨mm_cst_i (c_hsec l) (mm_cb_i rfl rfl (by decide) (by decide) tc_TS_headerSector ti_TS ⟨by decide, by decide, by decide +kernel⟩ (Or.inl tl_TS_110)) ts_TS_headerSector, fun _ h => absurd h List.not_mem_nil⟩)
  · exact mm_tb_e (List.forall_mem_cons.mpr ⟨mm_cvt_i (c_ho_version l) (mm_cb_i rfl rfl (by decide) (by decide) tc_HD_version ti_HD ⟨by decide, by decide, by decide +kernel⟩ (Or.inl tl_TS_157)) rfl tv_HD_version tx_HD_version, List.forall_mem_cons.mpr ⟨mm_cvt_i (c_ho_size l) (mm_cb_i rfl rfl (by decide) (by decide) tc_HD_size ti_HD ⟨by decide, by decide, by decide +kernel⟩ (Or.inl tl_TS_176)) rfl tv_HD_size tx_HD_size, List.forall_mem_cons.mpr ⟨mm_cvt_i (c_bdigest l) (mm_cb_i rfl rfl (by decide) (by decide) tc_TS_bodyDigest ti_TS ⟨by decide, by decide, by decide +kernel⟩ (Or.inl tl_TS_95)) rfl tv_TS_bodyDigest tx_TS_bodyDigest, List.forall_mem_cons.mpr ⟨mm_cvt_i (c_ho_bdigest l) (mm_cb_i rfl rfl (by decide) (by decide) tc_HD_bodyDigest ti_HD ⟨by decide, by decide, by decide +kernel⟩ (Or.inl tl_TS_182)) rfl tv_HD_bodyDigest tx_HD_bodyDigest, List.forall_mem_cons.mpr ⟨mm_cvt_i (c_psector l) (mm_cb_i rfl rfl (by decide) (by decide) tc_FL_programSector ti_FL ⟨by decide, by decide, by decide +kernel⟩ (Or.inl tl_TS_178)) rfl tv_FL_programSector tx_FL_programSector, List.forall_mem_cons.mpr ⟨mm_cvt_i (c_lose l) (mm_cb_i rfl rfl (by decide) (by decide) tc_TS_lose ti_TS ⟨by decide, by decide, by decide +kernel⟩ (Or.inl tl_TS_173)) rfl tv_TS_lose tx_TS_lose, List.forall_mem_cons.mpr ⟨mm_cvt_i (c_appTrying l) (mm_cb_i rfl rfl (by decide) (by decide) tc_LG_appendTrying ti_LG ⟨by decide, by decide, by decide +kernel⟩ (Or.inl tl_TS_188)) rfl tv_LG_appendTrying tx_LG_appendTrying, List.forall_mem_cons.mpr ⟨mm_cvt_i (c_dropOffer l) (mm_cb_i rfl rfl (by decide) (by decide) tc_TS_dropOffer ti_TS ⟨by decide, by decide, by decide +kernel⟩ (Or.inl tl_TS_185)) rfl tv_TS_dropOffer tx_TS_dropOffer, fun _ h => absurd h List.not_mem_nil⟩⟩⟩⟩⟩⟩⟩⟩)
  · rintro as x K ⟨rfl, hpre, hk⟩
    refine ⟨400, ?_⟩
    refine v_aload_n d_TS_finish_0 rfl ?_
    refine a_go (by decide) (v_getR d_TS_finish_1 rfl rfl rfl ?_)
    refine a_go (by decide) (v_getI d_TS_finish_4 rfl rfl rfl ?_)
    refine a_go (by decide) (v_if_eq d_TS_finish_7 (t := 13) (by decide) (fun c1 => ?_) (fun c1 => ?_))
    · skip
      refine a_go (by decide) (v_aload_n d_TS_finish_13 rfl ?_)
      refine a_go (by decide) (v_getI d_TS_finish_14 rfl rfl rfl ?_)
      refine a_go (by decide) (v_iconst d_TS_finish_17 ki_m1 ?_)
      refine a_go (by decide) (v_icmp_eq d_TS_finish_18 (t := 39) (by decide) (fun c2 => ?_) (fun c2 => ?_))
      · skip
        refine a_go (by decide) (v_bipush d_TS_finish_39 kb_m103 ?_)
        refine a_go (by decide) (v_ireturn d_TS_finish_41 rfl rfl ?_)
        exact mm_fiVS hk (mm_ifp c1 (mm_ifp c2 rfl))
      · skip
        refine a_go (by decide) (v_aload_n d_TS_finish_21 rfl ?_)
        refine a_go (by decide) (v_getI d_TS_finish_22 rfl rfl rfl ?_)
        refine a_go (by decide) (v_if_gt d_TS_finish_25 (t := 39) (by decide) (fun c3 => ?_) (fun c3 => ?_))
        · skip
          refine a_go (by decide) (v_bipush d_TS_finish_39 kb_m103 ?_)
          refine a_go (by decide) (v_ireturn d_TS_finish_41 rfl rfl ?_)
          exact mm_fiVS hk (mm_ifp c1 (mm_ifn c2 (mm_ifp c3 rfl)))
        · skip
          refine a_go (by decide) (v_aload_n d_TS_finish_28 rfl ?_)
          refine a_go (by decide) (v_getR d_TS_finish_29 rfl rfl rfl ?_)
          refine a_go (by decide) (v_getI d_TS_finish_32 rfl rfl rfl ?_)
          refine a_go (by decide) (v_iconst d_TS_finish_35 ki_m1 ?_)
          refine a_go (by decide) (v_icmp_ne d_TS_finish_36 (t := 42) (by decide) (fun c4 => ?_) (fun c4 => ?_))
          · skip
            refine a_go (by decide) (v_aload_n d_TS_finish_42 rfl ?_)
            refine a_go (by decide) (v_getI d_TS_finish_43 rfl rfl rfl ?_)
            refine a_go (by decide) (v_istore_n d_TS_finish_46 (by decide) ?_)
            refine a_go (by decide) (v_aload_n d_TS_finish_47 rfl ?_)
            refine a_go (by decide) (v_iload_n d_TS_finish_48 rfl ?_)
            refine a_go (by decide) (v_aload_n d_TS_finish_49 rfl ?_)
            refine a_go (by decide) (v_getR d_TS_finish_50 rfl rfl rfl ?_)
            refine a_go (by decide) (v_callV d_TS_finish_53 rfl (mm_spl 1 rfl) rfl (Nat.le_of_ble_eq_true rfl) rfl ?_)
            refine (i_ho_version ?_)
            refine a_go (by decide) (v_aload_n d_TS_finish_56 rfl ?_)
            refine a_go (by decide) (v_getR d_TS_finish_57 rfl rfl rfl ?_)
            refine a_go (by decide) (v_callV d_TS_finish_60 rfl (mm_spl 1 rfl) rfl (Nat.le_of_ble_eq_true rfl) rfl ?_)
            refine (i_ho_size ?_)
            refine a_go (by decide) (v_callV d_TS_finish_63 rfl (mm_spl 4 rfl) rfl (Nat.le_of_ble_eq_true rfl) rfl ?_)
            refine (i_bdigest ?_)
            refine a_go (by decide) (v_aload_n d_TS_finish_66 rfl ?_)
            refine a_go (by decide) (v_getR d_TS_finish_67 rfl rfl rfl ?_)
            refine a_go (by decide) (v_callV d_TS_finish_70 rfl (mm_spl 1 rfl) rfl (Nat.le_of_ble_eq_true rfl) rfl ?_)
            refine (i_ho_bdigest ?_)
            refine a_go (by decide) (v_lcmp d_TS_finish_73 ?_)
            refine a_go (by decide) (v_if_eq d_TS_finish_74 (t := 84) (by decide) (fun c5 => ?_) (fun c5 => ?_))
            · skip
              refine a_go (by decide) (v_aload_n d_TS_finish_84 rfl ?_)
              refine a_go (by decide) (v_getR d_TS_finish_85 rfl rfl rfl ?_)
              refine a_go (by decide) (v_iload_n d_TS_finish_88 rfl ?_)
              refine a_go (by decide) (v_callS d_TS_finish_89 rfl (mm_spl 1 rfl) rfl (Nat.le_of_ble_eq_true rfl) ?_)
              refine (i_hsec ?_)
              refine a_go (by decide) (v_aload_n d_TS_finish_92 rfl ?_)
              refine a_go (by decide) (v_getR d_TS_finish_93 rfl rfl rfl ?_)
              refine a_go (by decide) (v_getR d_TS_finish_96 rfl rfl rfl ?_)
              refine a_go (by decide) (v_callV d_TS_finish_99 rfl (mm_spl 3 rfl) rfl (Nat.le_of_ble_eq_true rfl) rfl ?_)
              refine (i_psector rfl ?_)
              refine a_go (by decide) (v_if_eq d_TS_finish_102 (t := 117) (by decide) (fun c6 => ?_) (fun c6 => ?_))
              · skip
                refine a_go (by decide) (v_aload_n d_TS_finish_117 rfl ?_)
                refine a_go (by decide) (v_callV d_TS_finish_118 rfl (mm_spl 1 rfl) rfl (Nat.le_of_ble_eq_true rfl) rfl ?_)
                refine (i_lose ?_)
                refine a_go (by decide) (v_ireturn d_TS_finish_121 rfl rfl ?_)
                exact mm_fiVS hk (mm_ifp c1 (mm_ifn c2 (mm_ifn c3 (mm_ifn c4 (mm_ifp c5 (mm_ifp c6 rfl))))))
              · skip
                refine a_go (by decide) (v_aload_n d_TS_finish_105 rfl ?_)
                refine a_go (by decide) (v_getR d_TS_finish_106 rfl rfl rfl ?_)
                refine a_go (by decide) (v_iload_n d_TS_finish_109 rfl ?_)
                refine a_go (by decide) (v_iconst d_TS_finish_110 ki_3 ?_)
                refine a_go (by decide) (v_callV d_TS_finish_111 rfl (mm_spl 3 rfl) rfl (Nat.le_of_ble_eq_true rfl) rfl ?_)
                refine (i_appTrying (J_psector hpre) ?_)
                refine a_go (by decide) (v_if_ne d_TS_finish_114 (t := 122) (by decide) (fun c7 => ?_) (fun c7 => ?_))
                · skip
                  refine a_go (by decide) (v_aload_n d_TS_finish_122 rfl ?_)
                  refine a_go (by decide) (v_callV d_TS_finish_123 rfl (mm_spl 1 rfl) rfl (Nat.le_of_ble_eq_true rfl) rfl ?_)
                  refine (i_dropOffer ?_)
                  refine a_go (by decide) (v_aload_n d_TS_finish_126 rfl ?_)
                  refine a_go (by decide) (v_dup d_TS_finish_127 rfl ?_)
                  refine a_go (by decide) (v_getI d_TS_finish_128 rfl rfl rfl ?_)
                  refine a_go (by decide) (v_iconst d_TS_finish_131 ki_1 ?_)
                  refine a_go (by decide) (v_iadd d_TS_finish_132 ?_)
                  refine a_go (by decide) (v_putI d_TS_finish_133 rfl rfl rfl ?_)
                  refine a_go (by decide) (v_iload_n d_TS_finish_136 rfl ?_)
                  refine a_go (by decide) (v_ireturn d_TS_finish_137 rfl rfl ?_)
                  exact mm_fiVS hk (mm_ifp c1 (mm_ifn c2 (mm_ifn c3 (mm_ifn c4 (mm_ifp c5 (mm_ifn c6 (mm_ifn c7 rfl)))))))
                · skip
                  refine a_go (by decide) (v_aload_n d_TS_finish_117 rfl ?_)
                  refine a_go (by decide) (v_callV d_TS_finish_118 rfl (mm_spl 1 rfl) rfl (Nat.le_of_ble_eq_true rfl) rfl ?_)
                  refine (i_lose ?_)
                  refine a_go (by decide) (v_ireturn d_TS_finish_121 rfl rfl ?_)
                  exact mm_fiVS hk (mm_ifp c1 (mm_ifn c2 (mm_ifn c3 (mm_ifn c4 (mm_ifp c5 (mm_ifn c6 (mm_ifp c7 rfl)))))))
            · skip
              refine a_go (by decide) (v_aload_n d_TS_finish_77 rfl ?_)
              refine a_go (by decide) (v_callV d_TS_finish_78 rfl (mm_spl 1 rfl) rfl (Nat.le_of_ble_eq_true rfl) rfl ?_)
              refine (i_dropOffer ?_)
              refine a_go (by decide) (v_bipush d_TS_finish_81 kb_m105 ?_)
              refine a_go (by decide) (v_ireturn d_TS_finish_83 rfl rfl ?_)
              exact mm_fiVS hk (mm_ifp c1 (mm_ifn c2 (mm_ifn c3 (mm_ifn c4 (mm_ifn c5 rfl)))))
          · skip
            refine a_go (by decide) (v_bipush d_TS_finish_39 kb_m103 ?_)
            refine a_go (by decide) (v_ireturn d_TS_finish_41 rfl rfl ?_)
            exact mm_fiVS hk (mm_ifp c1 (mm_ifn c2 (mm_ifn c3 (mm_ifp c4 rfl))))
    · skip
      refine a_go (by decide) (v_bipush d_TS_finish_10 kb_m100 ?_)
      refine a_go (by decide) (v_ireturn d_TS_finish_12 rfl rfl ?_)
      exact mm_fiVS hk (mm_ifn c1 rfl)
  · intro as x K _ k pc lv x' h
    cases h
-- TwoSlots.boot()I
def e_boot (x : mm_S) : Int32 × mm_S :=
  if (x.1 12) = (0 : Int32) then
    let q1 := e_bootUp x
    (q1.1, q1.2)
  else
    ((-100 : Int32), x)
def S_boot : mm_P := fun as x K => as = [.ref 0] ∧ (mm_J x) ∧ K (some (.int (e_boot x).1)) (e_boot x).2
theorem i_boot {x : mm_S} {K : mm_K} (hpre : (mm_J x)) (hk : K (some (.int (e_boot x).1)) (e_boot x).2) : S_boot [.ref 0] x K := ⟨rfl, hpre, hk⟩
def G_boot : mm_G := (FT_TS, CI_TS, CJ_TS, mm_tb [], mm_tb [(192, 1, 0, S_bootUp)], none)
def rm_boot : Room := { frames := 7, cells := 0, slots := 0, locals := 164 }
set_option maxRecDepth 10000 in
theorem c_boot (l : Launch) : mm_Con l NW CL TB LC y_TS_boot b_TS_boot 1 (some .int) rm_boot S_boot := by
  refine mm_con G_boot [] (fun _ _ _ _ _ _ _ => False) (by decide +kernel) tb_good LC_u nw_nest ?_ rfl ft_TS ci_TS cj_TS ?_ ?_ ?_ ?_
  · rintro as x K ⟨rfl, -⟩
    exact Nat.le_of_ble_eq_true rfl
  · exact mm_tb_e (fun _ h => absurd h List.not_mem_nil)
  · exact mm_tb_e (List.forall_mem_cons.mpr ⟨mm_cvt_i (c_bootUp l) (mm_cb_i rfl rfl (by decide) (by decide) tc_TS_bootUp ti_TS ⟨by decide, by decide, by decide +kernel⟩ (Or.inl tl_TS_192)) rfl tv_TS_bootUp tx_TS_bootUp, fun _ h => absurd h List.not_mem_nil⟩)
  · rintro as x K ⟨rfl, hpre, hk⟩
    refine ⟨400, ?_⟩
    refine v_aload_n d_TS_boot_0 rfl ?_
    refine a_go (by decide) (v_getR d_TS_boot_1 rfl rfl rfl ?_)
    refine a_go (by decide) (v_getI d_TS_boot_4 rfl rfl rfl ?_)
    refine a_go (by decide) (v_if_eq d_TS_boot_7 (t := 13) (by decide) (fun c1 => ?_) (fun c1 => ?_))
    · skip
      refine a_go (by decide) (v_aload_n d_TS_boot_13 rfl ?_)
      refine a_go (by decide) (v_callV d_TS_boot_14 rfl (mm_spl 1 rfl) rfl (Nat.le_of_ble_eq_true rfl) rfl ?_)
      refine (i_bootUp hpre ?_)
      refine a_go (by decide) (v_ireturn d_TS_boot_17 rfl rfl ?_)
      exact mm_fiVS hk (mm_ifp c1 rfl)
    · skip
      refine a_go (by decide) (v_bipush d_TS_boot_10 kb_m100 ?_)
      refine a_go (by decide) (v_ireturn d_TS_boot_12 rfl rfl ?_)
      exact mm_fiVS hk (mm_ifn c1 rfl)
  · intro as x K _ k pc lv x' h
    cases h
-- TwoSlots.confirm()I
def e_confirm (x : mm_S) : Int32 × mm_S :=
  if (x.1 12) = (0 : Int32) then
    if (x.1 4) = (0 : Int32) then
      ((-103 : Int32), x)
    else
      if (x.1 21) = (-1 : Int32) then
        ((-103 : Int32), x)
      else
        let x1 := e_readHeader (x.1 3) x
        let y2 := e_hs_version x1
        if (e_isBelow y2 x1) = (0 : Int32) then
          let q3 := e_appConfirmed (x1.1 3) y2 x1
          if q3.1 = (0 : Int32) then
            let q5 := e_lose q3.2
            (q5.1, q5.2)
          else
            let x4 := mm_setI q3.2 4 (0 : Int32)
            (x4.1 27, x4)
        else
          let y6 := x1.1 27
          let q7 := e_appConfirmed (x1.1 3) y6 x1
          if q7.1 = (0 : Int32) then
            let q9 := e_lose q7.2
            (q9.1, q9.2)
          else
            let x8 := mm_setI q7.2 4 (0 : Int32)
            (x8.1 27, x8)
  else
    ((-100 : Int32), x)
def S_confirm : mm_P := fun as x K => as = [.ref 0] ∧ (mm_J x) ∧ K (some (.int (e_confirm x).1)) (e_confirm x).2
theorem i_confirm {x : mm_S} {K : mm_K} (hpre : (mm_J x)) (hk : K (some (.int (e_confirm x).1)) (e_confirm x).2) : S_confirm [.ref 0] x K := ⟨rfl, hpre, hk⟩
def G_confirm : mm_G := (FT_TS, CI_TS, CJ_TS, mm_tb [], mm_tb [(195, 2, 0, S_readHeader), (157, 1, 4, S_hs_version), (160, 2, 0, S_isBelow), (201, 3, 2, S_appConfirmed), (173, 1, 0, S_lose)], none)
def rm_confirm : Room := { frames := 5, cells := 0, slots := 0, locals := 122 }
set_option maxRecDepth 10000 in
theorem c_confirm (l : Launch) : mm_Con l NW CL TB LC y_TS_confirm b_TS_confirm 3 (some .int) rm_confirm S_confirm := by
  refine mm_con G_confirm [] (fun _ _ _ _ _ _ _ => False) (by decide +kernel) tb_good LC_u nw_nest ?_ rfl ft_TS ci_TS cj_TS ?_ ?_ ?_ ?_
  · rintro as x K ⟨rfl, -⟩
    exact Nat.le_of_ble_eq_true rfl
  · exact mm_tb_e (fun _ h => absurd h List.not_mem_nil)
  · exact mm_tb_e (List.forall_mem_cons.mpr ⟨mm_cvt_i (c_readHeader l) (mm_cb_i rfl rfl (by decide) (by decide) tc_TS_readHeader ti_TS ⟨by decide, by decide, by decide +kernel⟩ (Or.inl tl_TS_195)) rfl tv_TS_readHeader tx_TS_readHeader, List.forall_mem_cons.mpr ⟨mm_cvt_i (c_hs_version l) (mm_cb_i rfl rfl (by decide) (by decide) tc_HD_version ti_HD ⟨by decide, by decide, by decide +kernel⟩ (Or.inl tl_TS_157)) rfl tv_HD_version tx_HD_version, List.forall_mem_cons.mpr ⟨mm_cvt_i (c_isBelow l) (mm_cb_i rfl rfl (by decide) (by decide) tc_TS_isBelowCounter ti_TS ⟨by decide, by decide, by decide +kernel⟩ (Or.inl tl_TS_160)) rfl tv_TS_isBelowCounter tx_TS_isBelowCounter, List.forall_mem_cons.mpr ⟨mm_cvt_i (c_appConfirmed l) (mm_cb_i rfl rfl (by decide) (by decide) tc_LG_appendConfirmed ti_LG ⟨by decide, by decide, by decide +kernel⟩ (Or.inl tl_TS_201)) rfl tv_LG_appendConfirmed tx_LG_appendConfirmed, List.forall_mem_cons.mpr ⟨mm_cvt_i (c_lose l) (mm_cb_i rfl rfl (by decide) (by decide) tc_TS_lose ti_TS ⟨by decide, by decide, by decide +kernel⟩ (Or.inl tl_TS_173)) rfl tv_TS_lose tx_TS_lose, fun _ h => absurd h List.not_mem_nil⟩⟩⟩⟩⟩)
  · rintro as x K ⟨rfl, hpre, hk⟩
    refine ⟨400, ?_⟩
    refine v_aload_n d_TS_confirm_0 rfl ?_
    refine a_go (by decide) (v_getR d_TS_confirm_1 rfl rfl rfl ?_)
    refine a_go (by decide) (v_getI d_TS_confirm_4 rfl rfl rfl ?_)
    refine a_go (by decide) (v_if_eq d_TS_confirm_7 (t := 13) (by decide) (fun c1 => ?_) (fun c1 => ?_))
    · skip
      refine a_go (by decide) (v_aload_n d_TS_confirm_13 rfl ?_)
      refine a_go (by decide) (v_getI d_TS_confirm_14 rfl rfl rfl ?_)
      refine a_go (by decide) (v_if_eq d_TS_confirm_17 (t := 31) (by decide) (fun c2 => ?_) (fun c2 => ?_))
      · skip
        refine a_go (by decide) (v_bipush d_TS_confirm_31 kb_m103 ?_)
        refine a_go (by decide) (v_ireturn d_TS_confirm_33 rfl rfl ?_)
        exact mm_fiVS hk (mm_ifp c1 (mm_ifp c2 rfl))
      · skip
        refine a_go (by decide) (v_aload_n d_TS_confirm_20 rfl ?_)
        refine a_go (by decide) (v_getR d_TS_confirm_21 rfl rfl rfl ?_)
        refine a_go (by decide) (v_getI d_TS_confirm_24 rfl rfl rfl ?_)
        refine a_go (by decide) (v_iconst d_TS_confirm_27 ki_m1 ?_)
        refine a_go (by decide) (v_icmp_ne d_TS_confirm_28 (t := 34) (by decide) (fun c3 => ?_) (fun c3 => ?_))
        · skip
          refine a_go (by decide) (v_aload_n d_TS_confirm_34 rfl ?_)
          refine a_go (by decide) (v_aload_n d_TS_confirm_35 rfl ?_)
          refine a_go (by decide) (v_getI d_TS_confirm_36 rfl rfl rfl ?_)
          refine a_go (by decide) (v_callV d_TS_confirm_39 rfl (mm_spl 2 rfl) rfl (Nat.le_of_ble_eq_true rfl) rfl ?_)
          refine (i_readHeader ?_)
          refine a_go (by decide) (v_aload_n d_TS_confirm_42 rfl ?_)
          refine a_go (by decide) (v_getR d_TS_confirm_43 rfl rfl rfl ?_)
          refine a_go (by decide) (v_callV d_TS_confirm_46 rfl (mm_spl 1 rfl) rfl (Nat.le_of_ble_eq_true rfl) rfl ?_)
          refine (i_hs_version ?_)
          refine a_go (by decide) (v_istore_n d_TS_confirm_49 (by decide) ?_)
          refine a_go (by decide) (v_aload_n d_TS_confirm_50 rfl ?_)
          refine a_go (by decide) (v_iload_n d_TS_confirm_51 rfl ?_)
          refine a_go (by decide) (v_callV d_TS_confirm_52 rfl (mm_spl 2 rfl) rfl (Nat.le_of_ble_eq_true rfl) rfl ?_)
          refine (i_isBelow ?_)
          refine a_go (by decide) (v_if_eq d_TS_confirm_55 (t := 68) (by decide) (fun c4 => ?_) (fun c4 => ?_))
          · skip
            refine a_go (by decide) (v_iload_n d_TS_confirm_68 rfl ?_)
            refine a_go (by decide) (v_istore_n d_TS_confirm_69 (by decide) ?_)
            refine a_go (by decide) (v_aload_n d_TS_confirm_70 rfl ?_)
            refine a_go (by decide) (v_getR d_TS_confirm_71 rfl rfl rfl ?_)
            refine a_go (by decide) (v_aload_n d_TS_confirm_74 rfl ?_)
            refine a_go (by decide) (v_getI d_TS_confirm_75 rfl rfl rfl ?_)
            refine a_go (by decide) (v_iload_n d_TS_confirm_78 rfl ?_)
            refine a_go (by decide) (v_callV d_TS_confirm_79 rfl (mm_spl 3 rfl) rfl (Nat.le_of_ble_eq_true rfl) rfl ?_)
            refine (i_appConfirmed (J_readHeader hpre) ?_)
            refine a_go (by decide) (v_if_ne d_TS_confirm_82 (t := 90) (by decide) (fun c5 => ?_) (fun c5 => ?_))
            · skip
              refine a_go (by decide) (v_aload_n d_TS_confirm_90 rfl ?_)
              refine a_go (by decide) (v_iconst d_TS_confirm_91 ki_0 ?_)
              refine a_go (by decide) (v_putI d_TS_confirm_92 rfl rfl rfl ?_)
              refine a_go (by decide) (v_aload_n d_TS_confirm_95 rfl ?_)
              refine a_go (by decide) (v_getR d_TS_confirm_96 rfl rfl rfl ?_)
              refine a_go (by decide) (v_getI d_TS_confirm_99 rfl rfl rfl ?_)
              refine a_go (by decide) (v_ireturn d_TS_confirm_102 rfl rfl ?_)
              exact mm_fiVS hk (mm_ifp c1 (mm_ifn c2 (mm_ifn c3 (mm_ifp c4 (mm_ifn c5 rfl)))))
            · skip
              refine a_go (by decide) (v_aload_n d_TS_confirm_85 rfl ?_)
              refine a_go (by decide) (v_callV d_TS_confirm_86 rfl (mm_spl 1 rfl) rfl (Nat.le_of_ble_eq_true rfl) rfl ?_)
              refine (i_lose ?_)
              refine a_go (by decide) (v_ireturn d_TS_confirm_89 rfl rfl ?_)
              exact mm_fiVS hk (mm_ifp c1 (mm_ifn c2 (mm_ifn c3 (mm_ifp c4 (mm_ifp c5 rfl)))))
          · skip
            refine a_go (by decide) (v_aload_n d_TS_confirm_58 rfl ?_)
            refine a_go (by decide) (v_getR d_TS_confirm_59 rfl rfl rfl ?_)
            refine a_go (by decide) (v_getI d_TS_confirm_62 rfl rfl rfl ?_)
            refine a_go (by decide) (v_goto d_TS_confirm_65 (t := 69) (by decide) ?_)
            refine a_go (by decide) (v_istore_n d_TS_confirm_69 (by decide) ?_)
            refine a_go (by decide) (v_aload_n d_TS_confirm_70 rfl ?_)
            refine a_go (by decide) (v_getR d_TS_confirm_71 rfl rfl rfl ?_)
            refine a_go (by decide) (v_aload_n d_TS_confirm_74 rfl ?_)
            refine a_go (by decide) (v_getI d_TS_confirm_75 rfl rfl rfl ?_)
            refine a_go (by decide) (v_iload_n d_TS_confirm_78 rfl ?_)
            refine a_go (by decide) (v_callV d_TS_confirm_79 rfl (mm_spl 3 rfl) rfl (Nat.le_of_ble_eq_true rfl) rfl ?_)
            refine (i_appConfirmed (J_readHeader hpre) ?_)
            refine a_go (by decide) (v_if_ne d_TS_confirm_82 (t := 90) (by decide) (fun c6 => ?_) (fun c6 => ?_))
            · skip
              refine a_go (by decide) (v_aload_n d_TS_confirm_90 rfl ?_)
              refine a_go (by decide) (v_iconst d_TS_confirm_91 ki_0 ?_)
              refine a_go (by decide) (v_putI d_TS_confirm_92 rfl rfl rfl ?_)
              refine a_go (by decide) (v_aload_n d_TS_confirm_95 rfl ?_)
              refine a_go (by decide) (v_getR d_TS_confirm_96 rfl rfl rfl ?_)
              refine a_go (by decide) (v_getI d_TS_confirm_99 rfl rfl rfl ?_)
              refine a_go (by decide) (v_ireturn d_TS_confirm_102 rfl rfl ?_)
              exact mm_fiVS hk (mm_ifp c1 (mm_ifn c2 (mm_ifn c3 (mm_ifn c4 (mm_ifn c6 rfl)))))
            · skip
              refine a_go (by decide) (v_aload_n d_TS_confirm_85 rfl ?_)
              refine a_go (by decide) (v_callV d_TS_confirm_86 rfl (mm_spl 1 rfl) rfl (Nat.le_of_ble_eq_true rfl) rfl ?_)
              refine (i_lose ?_)
              refine a_go (by decide) (v_ireturn d_TS_confirm_89 rfl rfl ?_)
              exact mm_fiVS hk (mm_ifp c1 (mm_ifn c2 (mm_ifn c3 (mm_ifn c4 (mm_ifp c6 rfl)))))
        · skip
          refine a_go (by decide) (v_bipush d_TS_confirm_31 kb_m103 ?_)
          refine a_go (by decide) (v_ireturn d_TS_confirm_33 rfl rfl ?_)
          exact mm_fiVS hk (mm_ifp c1 (mm_ifn c2 (mm_ifp c3 rfl)))
    · skip
      refine a_go (by decide) (v_bipush d_TS_confirm_10 kb_m100 ?_)
      refine a_go (by decide) (v_ireturn d_TS_confirm_12 rfl rfl ?_)
      exact mm_fiVS hk (mm_ifn c1 rfl)
  · intro as x K _ k pc lv x' h
    cases h
-- TwoSlots.tick(I)I
def l_tick_31 (k : Nat) (u1 : Int32) (u2 : Int32) (u3 : Int32) (x : mm_S) : Int32 × mm_S := match k with
  | 0 => (0, x)
  | k + 1 =>
    if u1 ≤ u3 then
      (u2, x)
    else
      if (x.1 4) ≤ (0 : Int32) then
        (u2, x)
      else
        let x1 := mm_setI x 4 ((x.1 4) - (1 : Int32))
        if (x1.1 4) = (0 : Int32) then
          let x2 := mm_setI x1 7 ((x1.1 7) + (1 : Int32))
          let q3 := e_bootUp x2
          if q3.1 = (-106 : Int32) then
            ((-106 : Int32), q3.2)
          else
            l_tick_31 (k) u1 (u2 + (1 : Int32)) (u3 + (1 : Int32)) q3.2
        else
          l_tick_31 (k) u1 u2 (u3 + (1 : Int32)) x1
def e_tick (v0 : Int32) (x : mm_S) : Int32 × mm_S :=
  if (x.1 12) = (0 : Int32) then
    if v0 < (1 : Int32) then
      ((-102 : Int32), x)
    else
      if v0 ≤ (100 : Int32) then
        l_tick_31 (mm_fu (0 : Int32) v0) v0 (0 : Int32) (0 : Int32) x
      else
        ((-102 : Int32), x)
  else
    ((-100 : Int32), x)
def S_tick : mm_P := fun as x K => ∃ (v0 : Int32), as = [.ref 0, .int v0] ∧ (mm_J x) ∧ K (some (.int (e_tick v0 x).1)) (e_tick v0 x).2
theorem i_tick {v0 : Int32} {x : mm_S} {K : mm_K} (hpre : (mm_J x)) (hk : K (some (.int (e_tick v0 x).1)) (e_tick v0 x).2) : S_tick [.ref 0, .int v0] x K := ⟨_, rfl, hpre, hk⟩
def G_tick : mm_G := (FT_TS, CI_TS, CJ_TS, mm_tb [], mm_tb [(192, 1, 0, S_bootUp)], none)
def rm_tick : Room := { frames := 7, cells := 0, slots := 0, locals := 164 }
abbrev Inv_tick : mm_K → List Value → mm_S → Nat → Nat → mm_V → mm_S → Prop := fun K _ _ k pc lv x => pc = 31 ∧ ∃ (u1 : Int32) (u2 : Int32) (u3 : Int32), lv = [(0, .ref 0), (1, .int u1), (2, .int u2), (3, .int u3)] ∧ mm_ms u3 u1 < k ∧ (mm_J x) ∧ K (some (.int (l_tick_31 k u1 u2 u3 x).1)) (l_tick_31 k u1 u2 u3 x).2
set_option maxRecDepth 10000 in
theorem c_tick (l : Launch) : mm_Con l NW CL TB LC y_TS_tick b_TS_tick 4 (some .int) rm_tick S_tick := by
  refine mm_con G_tick [31] Inv_tick (by decide +kernel) tb_good LC_u nw_nest ?_ rfl ft_TS ci_TS cj_TS ?_ ?_ ?_ ?_
  · rintro as x K ⟨v0, rfl, -⟩
    exact Nat.le_of_ble_eq_true rfl
  · exact mm_tb_e (fun _ h => absurd h List.not_mem_nil)
  · exact mm_tb_e (List.forall_mem_cons.mpr ⟨mm_cvt_i (c_bootUp l) (mm_cb_i rfl rfl (by decide) (by decide) tc_TS_bootUp ti_TS ⟨by decide, by decide, by decide +kernel⟩ (Or.inl tl_TS_192)) rfl tv_TS_bootUp tx_TS_bootUp, fun _ h => absurd h List.not_mem_nil⟩)
  · rintro as x K ⟨v0, rfl, hpre, hk⟩
    refine ⟨400, ?_⟩
    refine v_aload_n d_TS_tick_0 rfl ?_
    refine a_go (by decide) (v_getR d_TS_tick_1 rfl rfl rfl ?_)
    refine a_go (by decide) (v_getI d_TS_tick_4 rfl rfl rfl ?_)
    refine a_go (by decide) (v_if_eq d_TS_tick_7 (t := 13) (by decide) (fun c1 => ?_) (fun c1 => ?_))
    · skip
      refine a_go (by decide) (v_iload_n d_TS_tick_13 rfl ?_)
      refine a_go (by decide) (v_iconst d_TS_tick_14 ki_1 ?_)
      refine a_go (by decide) (v_icmp_lt d_TS_tick_15 (t := 24) (by decide) (fun c2 => ?_) (fun c2 => ?_))
      · skip
        refine a_go (by decide) (v_bipush d_TS_tick_24 kb_m102 ?_)
        refine a_go (by decide) (v_ireturn d_TS_tick_26 rfl rfl ?_)
        exact mm_fiVS hk (mm_ifp c1 (mm_ifp c2 rfl))
      · skip
        refine a_go (by decide) (v_iload_n d_TS_tick_18 rfl ?_)
        refine a_go (by decide) (v_bipush d_TS_tick_19 kb_100 ?_)
        refine a_go (by decide) (v_icmp_le d_TS_tick_21 (t := 27) (by decide) (fun c3 => ?_) (fun c3 => ?_))
        · skip
          refine a_go (by decide) (v_iconst d_TS_tick_27 ki_0 ?_)
          refine a_go (by decide) (v_istore_n d_TS_tick_28 (by decide) ?_)
          refine a_go (by decide) (v_iconst d_TS_tick_29 ki_0 ?_)
          refine a_go (by decide) (v_istore_n d_TS_tick_30 (by decide) ?_)
          refine a_cut (by decide) ⟨rfl, _, [(0, _), (1, _), (2, _), (3, _)], (mm_all_c rfl (mm_all_c rfl (mm_all_c rfl (mm_all_c rfl (mm_all_n))))), rfl, _, _, _, rfl, ?_, ?_, (mm_mvVS hk (mm_ifp c1 (mm_ifn c2 (mm_ifp c3 rfl))))⟩
          · exact mm_ent _ _
          · exact hpre
        · skip
          refine a_go (by decide) (v_bipush d_TS_tick_24 kb_m102 ?_)
          refine a_go (by decide) (v_ireturn d_TS_tick_26 rfl rfl ?_)
          exact mm_fiVS hk (mm_ifp c1 (mm_ifn c2 (mm_ifn c3 rfl)))
    · skip
      refine a_go (by decide) (v_bipush d_TS_tick_10 kb_m100 ?_)
      refine a_go (by decide) (v_ireturn d_TS_tick_12 rfl rfl ?_)
      exact mm_fiVS hk (mm_ifn c1 rfl)
  · rintro as x0 K - k pc lv x - ⟨rfl, u1, u2, u3, rfl, hm, hs0, hk⟩
    obtain ⟨k, rfl⟩ := mm_pos hm
    refine ⟨400, ?_⟩
    refine v_iload_n d_TS_tick_31 rfl ?_
    refine a_go (by decide) (v_iload_n d_TS_tick_32 rfl ?_)
    refine a_go (by decide) (v_icmp_ge d_TS_tick_33 (t := 91) (by decide) (fun c4 => ?_) (fun c4 => ?_))
    · skip
      refine a_go (by decide) (v_iload_n d_TS_tick_91 rfl ?_)
      refine a_go (by decide) (v_ireturn d_TS_tick_92 rfl rfl ?_)
      exact mm_fiVS hk (mm_ifp c4 rfl)
    · skip
      refine a_go (by decide) (v_aload_n d_TS_tick_36 rfl ?_)
      refine a_go (by decide) (v_getI d_TS_tick_37 rfl rfl rfl ?_)
      refine a_go (by decide) (v_if_le d_TS_tick_40 (t := 91) (by decide) (fun c5 => ?_) (fun c5 => ?_))
      · skip
        refine a_go (by decide) (v_iload_n d_TS_tick_91 rfl ?_)
        refine a_go (by decide) (v_ireturn d_TS_tick_92 rfl rfl ?_)
        exact mm_fiVS hk (mm_ifn c4 (mm_ifp c5 rfl))
      · skip
        refine a_go (by decide) (v_aload_n d_TS_tick_43 rfl ?_)
        refine a_go (by decide) (v_dup d_TS_tick_44 rfl ?_)
        refine a_go (by decide) (v_getI d_TS_tick_45 rfl rfl rfl ?_)
        refine a_go (by decide) (v_iconst d_TS_tick_48 ki_1 ?_)
        refine a_go (by decide) (v_isub d_TS_tick_49 ?_)
        refine a_go (by decide) (v_putI d_TS_tick_50 rfl rfl rfl ?_)
        refine a_go (by decide) (v_aload_n d_TS_tick_53 rfl ?_)
        refine a_go (by decide) (v_getI d_TS_tick_54 rfl rfl rfl ?_)
        refine a_go (by decide) (v_if_ne d_TS_tick_57 (t := 85) (by decide) (fun c6 => ?_) (fun c6 => ?_))
        · skip
          refine a_go (by decide) (v_iinc d_TS_tick_85 (by decide) rfl ki_1 ?_)
          refine a_go (by decide) (v_goto d_TS_tick_88 (t := 31) (by decide) ?_)
          refine a_cut (by decide) ⟨rfl, _, [(0, _), (1, _), (2, _), (3, _)], ?_, (mm_all_c rfl (mm_all_c rfl (mm_all_c rfl (mm_all_c rfl (mm_all_n))))), rfl, _, _, _, rfl, ?_, ?_, (mm_mvVS hk (mm_ifn c4 (mm_ifn c5 (mm_ifn c6 rfl))))⟩
          · exact Nat.lt_succ_self _
          · exact mm_dec c4 hm
          · exact (mm_Js (by decide) hs0)
        · skip
          refine a_go (by decide) (v_iinc d_TS_tick_60 (by decide) rfl ki_1 ?_)
          refine a_go (by decide) (v_aload_n d_TS_tick_63 rfl ?_)
          refine a_go (by decide) (v_dup d_TS_tick_64 rfl ?_)
          refine a_go (by decide) (v_getI d_TS_tick_65 rfl rfl rfl ?_)
          refine a_go (by decide) (v_iconst d_TS_tick_68 ki_1 ?_)
          refine a_go (by decide) (v_iadd d_TS_tick_69 ?_)
          refine a_go (by decide) (v_putI d_TS_tick_70 rfl rfl rfl ?_)
          refine a_go (by decide) (v_aload_n d_TS_tick_73 rfl ?_)
          refine a_go (by decide) (v_callV d_TS_tick_74 rfl (mm_spl 1 rfl) rfl (Nat.le_of_ble_eq_true rfl) rfl ?_)
          refine (i_bootUp (mm_Js (by decide) (mm_Js (by decide) hs0)) ?_)
          refine a_go (by decide) (v_bipush d_TS_tick_77 kb_m106 ?_)
          refine a_go (by decide) (v_icmp_ne d_TS_tick_79 (t := 85) (by decide) (fun c7 => ?_) (fun c7 => ?_))
          · skip
            refine a_go (by decide) (v_iinc d_TS_tick_85 (by decide) rfl ki_1 ?_)
            refine a_go (by decide) (v_goto d_TS_tick_88 (t := 31) (by decide) ?_)
            refine a_cut (by decide) ⟨rfl, _, [(0, _), (1, _), (2, _), (3, _)], ?_, (mm_all_c rfl (mm_all_c rfl (mm_all_c rfl (mm_all_c rfl (mm_all_n))))), rfl, _, _, _, rfl, ?_, ?_, (mm_mvVS hk (mm_ifn c4 (mm_ifn c5 (mm_ifp c6 (mm_ifn c7 rfl)))))⟩
            · exact Nat.lt_succ_self _
            · exact mm_dec c4 hm
            · exact (J_bootUp (mm_Js (by decide) (mm_Js (by decide) hs0)))
          · skip
            refine a_go (by decide) (v_bipush d_TS_tick_82 kb_m106 ?_)
            refine a_go (by decide) (v_ireturn d_TS_tick_84 rfl rfl ?_)
            exact mm_fiVS hk (mm_ifn c4 (mm_ifn c5 (mm_ifp c6 (mm_ifp c7 rfl))))
-- TwoSlots.revoke(I)I
def e_revoke (v0 : Int32) (x : mm_S) : Int32 × mm_S :=
  if (x.1 12) = (0 : Int32) then
    if v0 < (0 : Int32) then
      ((-101 : Int32), x)
    else
      if v0 < (4 : Int32) then
        if (e_runsForGood x) = (0 : Int32) then
          ((-103 : Int32), x)
        else
          if (x.1 1) = (-1 : Int32) then
            if (x.1 21) = (-1 : Int32) then
              ((-103 : Int32), x)
            else
              if (x.1 24) = (-1 : Int32) then
                let x1 := e_readHeader (x.1 3) x
                if (e_hs_key x1) = v0 then
                  ((-103 : Int32), x1)
                else
                  if (e_isRevoked v0 x1) = (0 : Int32) then
                    let q2 := e_appRevoked ((x1.1 26) ||| ((1 : Int32) <<< (v0 &&& 31))) x1
                    if q2.1 = (0 : Int32) then
                      let q3 := e_lose q2.2
                      (q3.1, q3.2)
                    else
                      ((1 : Int32), q2.2)
                  else
                    ((0 : Int32), x1)
              else
                ((-103 : Int32), x)
          else
            ((-103 : Int32), x)
      else
        ((-101 : Int32), x)
  else
    ((-100 : Int32), x)
def S_revoke : mm_P := fun as x K => ∃ (v0 : Int32), as = [.ref 0, .int v0] ∧ (mm_J x) ∧ K (some (.int (e_revoke v0 x).1)) (e_revoke v0 x).2
theorem i_revoke {v0 : Int32} {x : mm_S} {K : mm_K} (hpre : (mm_J x)) (hk : K (some (.int (e_revoke v0 x).1)) (e_revoke v0 x).2) : S_revoke [.ref 0, .int v0] x K := ⟨_, rfl, hpre, hk⟩
def G_revoke : mm_G := (FT_TS, CI_TS, CJ_TS, mm_tb [], mm_tb [(147, 1, 0, S_runsForGood), (195, 2, 0, S_readHeader), (207, 1, 4, S_hs_key), (209, 2, 0, S_isRevoked), (215, 2, 2, S_appRevoked), (173, 1, 0, S_lose)], none)
def rm_revoke : Room := { frames := 5, cells := 0, slots := 0, locals := 121 }
set_option maxRecDepth 10000 in
theorem c_revoke (l : Launch) : mm_Con l NW CL TB LC y_TS_revoke b_TS_revoke 2 (some .int) rm_revoke S_revoke := by
  refine mm_con G_revoke [] (fun _ _ _ _ _ _ _ => False) (by decide +kernel) tb_good LC_u nw_nest ?_ rfl ft_TS ci_TS cj_TS ?_ ?_ ?_ ?_
  · rintro as x K ⟨v0, rfl, -⟩
    exact Nat.le_of_ble_eq_true rfl
  · exact mm_tb_e (fun _ h => absurd h List.not_mem_nil)
  · exact mm_tb_e (List.forall_mem_cons.mpr ⟨mm_cvt_i (c_runsForGood l) (mm_cb_i rfl rfl (by decide) (by decide) tc_TS_runsForGood ti_TS ⟨by decide, by decide, by decide +kernel⟩ (Or.inl tl_TS_147)) rfl tv_TS_runsForGood tx_TS_runsForGood, List.forall_mem_cons.mpr ⟨mm_cvt_i (c_readHeader l) (mm_cb_i rfl rfl (by decide) (by decide) tc_TS_readHeader ti_TS ⟨by decide, by decide, by decide +kernel⟩ (Or.inl tl_TS_195)) rfl tv_TS_readHeader tx_TS_readHeader, List.forall_mem_cons.mpr ⟨mm_cvt_i (c_hs_key l) (mm_cb_i rfl rfl (by decide) (by decide) tc_HD_key ti_HD ⟨by decide, by decide, by decide +kernel⟩ (Or.inl tl_TS_207)) rfl tv_HD_key tx_HD_key, List.forall_mem_cons.mpr ⟨mm_cvt_i (c_isRevoked l) (mm_cb_i rfl rfl (by decide) (by decide) tc_TS_isRevoked ti_TS ⟨by decide, by decide, by decide +kernel⟩ (Or.inl tl_TS_209)) rfl tv_TS_isRevoked tx_TS_isRevoked, List.forall_mem_cons.mpr ⟨mm_cvt_i (c_appRevoked l) (mm_cb_i rfl rfl (by decide) (by decide) tc_LG_appendRevoked ti_LG ⟨by decide, by decide, by decide +kernel⟩ (Or.inl tl_TS_215)) rfl tv_LG_appendRevoked tx_LG_appendRevoked, List.forall_mem_cons.mpr ⟨mm_cvt_i (c_lose l) (mm_cb_i rfl rfl (by decide) (by decide) tc_TS_lose ti_TS ⟨by decide, by decide, by decide +kernel⟩ (Or.inl tl_TS_173)) rfl tv_TS_lose tx_TS_lose, fun _ h => absurd h List.not_mem_nil⟩⟩⟩⟩⟩⟩)
  · rintro as x K ⟨v0, rfl, hpre, hk⟩
    refine ⟨400, ?_⟩
    refine v_aload_n d_TS_revoke_0 rfl ?_
    refine a_go (by decide) (v_getR d_TS_revoke_1 rfl rfl rfl ?_)
    refine a_go (by decide) (v_getI d_TS_revoke_4 rfl rfl rfl ?_)
    refine a_go (by decide) (v_if_eq d_TS_revoke_7 (t := 13) (by decide) (fun c1 => ?_) (fun c1 => ?_))
    · skip
      refine a_go (by decide) (v_iload_n d_TS_revoke_13 rfl ?_)
      refine a_go (by decide) (v_if_lt d_TS_revoke_14 (t := 22) (by decide) (fun c2 => ?_) (fun c2 => ?_))
      · skip
        refine a_go (by decide) (v_bipush d_TS_revoke_22 kb_m101 ?_)
        refine a_go (by decide) (v_ireturn d_TS_revoke_24 rfl rfl ?_)
        exact mm_fiVS hk (mm_ifp c1 (mm_ifp c2 rfl))
      · skip
        refine a_go (by decide) (v_iload_n d_TS_revoke_17 rfl ?_)
        refine a_go (by decide) (v_iconst d_TS_revoke_18 ki_4 ?_)
        refine a_go (by decide) (v_icmp_lt d_TS_revoke_19 (t := 25) (by decide) (fun c3 => ?_) (fun c3 => ?_))
        · skip
          refine a_go (by decide) (v_aload_n d_TS_revoke_25 rfl ?_)
          refine a_go (by decide) (v_callV d_TS_revoke_26 rfl (mm_spl 1 rfl) rfl (Nat.le_of_ble_eq_true rfl) rfl ?_)
          refine (i_runsForGood ?_)
          refine a_go (by decide) (v_if_eq d_TS_revoke_29 (t := 62) (by decide) (fun c4 => ?_) (fun c4 => ?_))
          · skip
            refine a_go (by decide) (v_bipush d_TS_revoke_62 kb_m103 ?_)
            refine a_go (by decide) (v_ireturn d_TS_revoke_64 rfl rfl ?_)
            exact mm_fiVS hk (mm_ifp c1 (mm_ifn c2 (mm_ifp c3 (mm_ifp c4 rfl))))
          · skip
            refine a_go (by decide) (v_aload_n d_TS_revoke_32 rfl ?_)
            refine a_go (by decide) (v_getI d_TS_revoke_33 rfl rfl rfl ?_)
            refine a_go (by decide) (v_iconst d_TS_revoke_36 ki_m1 ?_)
            refine a_go (by decide) (v_icmp_ne d_TS_revoke_37 (t := 62) (by decide) (fun c5 => ?_) (fun c5 => ?_))
            · skip
              refine a_go (by decide) (v_bipush d_TS_revoke_62 kb_m103 ?_)
              refine a_go (by decide) (v_ireturn d_TS_revoke_64 rfl rfl ?_)
              exact mm_fiVS hk (mm_ifp c1 (mm_ifn c2 (mm_ifp c3 (mm_ifn c4 (mm_ifn c5 rfl)))))
            · skip
              refine a_go (by decide) (v_aload_n d_TS_revoke_40 rfl ?_)
              refine a_go (by decide) (v_getR d_TS_revoke_41 rfl rfl rfl ?_)
              refine a_go (by decide) (v_getI d_TS_revoke_44 rfl rfl rfl ?_)
              refine a_go (by decide) (v_iconst d_TS_revoke_47 ki_m1 ?_)
              refine a_go (by decide) (v_icmp_eq d_TS_revoke_48 (t := 62) (by decide) (fun c6 => ?_) (fun c6 => ?_))
              · skip
                refine a_go (by decide) (v_bipush d_TS_revoke_62 kb_m103 ?_)
                refine a_go (by decide) (v_ireturn d_TS_revoke_64 rfl rfl ?_)
                exact mm_fiVS hk (mm_ifp c1 (mm_ifn c2 (mm_ifp c3 (mm_ifn c4 (mm_ifp c5 (mm_ifp c6 rfl))))))
              · skip
                refine a_go (by decide) (v_aload_n d_TS_revoke_51 rfl ?_)
                refine a_go (by decide) (v_getR d_TS_revoke_52 rfl rfl rfl ?_)
                refine a_go (by decide) (v_getI d_TS_revoke_55 rfl rfl rfl ?_)
                refine a_go (by decide) (v_iconst d_TS_revoke_58 ki_m1 ?_)
                refine a_go (by decide) (v_icmp_eq d_TS_revoke_59 (t := 65) (by decide) (fun c7 => ?_) (fun c7 => ?_))
                · skip
                  refine a_go (by decide) (v_aload_n d_TS_revoke_65 rfl ?_)
                  refine a_go (by decide) (v_aload_n d_TS_revoke_66 rfl ?_)
                  refine a_go (by decide) (v_getI d_TS_revoke_67 rfl rfl rfl ?_)
                  refine a_go (by decide) (v_callV d_TS_revoke_70 rfl (mm_spl 2 rfl) rfl (Nat.le_of_ble_eq_true rfl) rfl ?_)
                  refine (i_readHeader ?_)
                  refine a_go (by decide) (v_aload_n d_TS_revoke_73 rfl ?_)
                  refine a_go (by decide) (v_getR d_TS_revoke_74 rfl rfl rfl ?_)
                  refine a_go (by decide) (v_callV d_TS_revoke_77 rfl (mm_spl 1 rfl) rfl (Nat.le_of_ble_eq_true rfl) rfl ?_)
                  refine (i_hs_key ?_)
                  refine a_go (by decide) (v_iload_n d_TS_revoke_80 rfl ?_)
                  refine a_go (by decide) (v_icmp_ne d_TS_revoke_81 (t := 87) (by decide) (fun c8 => ?_) (fun c8 => ?_))
                  · skip
                    refine a_go (by decide) (v_aload_n d_TS_revoke_87 rfl ?_)
                    refine a_go (by decide) (v_iload_n d_TS_revoke_88 rfl ?_)
                    refine a_go (by decide) (v_callV d_TS_revoke_89 rfl (mm_spl 2 rfl) rfl (Nat.le_of_ble_eq_true rfl) rfl ?_)
                    refine (i_isRevoked ?_)
                    refine a_go (by decide) (v_if_eq d_TS_revoke_92 (t := 97) (by decide) (fun c9 => ?_) (fun c9 => ?_))
                    · skip
                      refine a_go (by decide) (v_aload_n d_TS_revoke_97 rfl ?_)
                      refine a_go (by decide) (v_getR d_TS_revoke_98 rfl rfl rfl ?_)
                      refine a_go (by decide) (v_aload_n d_TS_revoke_101 rfl ?_)
                      refine a_go (by decide) (v_getR d_TS_revoke_102 rfl rfl rfl ?_)
                      refine a_go (by decide) (v_getI d_TS_revoke_105 rfl rfl rfl ?_)
                      refine a_go (by decide) (v_iconst d_TS_revoke_108 ki_1 ?_)
                      refine a_go (by decide) (v_iload_n d_TS_revoke_109 rfl ?_)
                      refine a_go (by decide) (v_ishl d_TS_revoke_110 ?_)
                      refine a_go (by decide) (v_ior d_TS_revoke_111 ?_)
                      refine a_go (by decide) (v_callV d_TS_revoke_112 rfl (mm_spl 2 rfl) rfl (Nat.le_of_ble_eq_true rfl) rfl ?_)
                      refine (i_appRevoked (J_readHeader hpre) ?_)
                      refine a_go (by decide) (v_if_ne d_TS_revoke_115 (t := 123) (by decide) (fun c10 => ?_) (fun c10 => ?_))
                      · skip
                        refine a_go (by decide) (v_iconst d_TS_revoke_123 ki_1 ?_)
                        refine a_go (by decide) (v_ireturn d_TS_revoke_124 rfl rfl ?_)
                        exact mm_fiVS hk (mm_ifp c1 (mm_ifn c2 (mm_ifp c3 (mm_ifn c4 (mm_ifp c5 (mm_ifn c6 (mm_ifp c7 (mm_ifn c8 (mm_ifp c9 (mm_ifn c10 rfl))))))))))
                      · skip
                        refine a_go (by decide) (v_aload_n d_TS_revoke_118 rfl ?_)
                        refine a_go (by decide) (v_callV d_TS_revoke_119 rfl (mm_spl 1 rfl) rfl (Nat.le_of_ble_eq_true rfl) rfl ?_)
                        refine (i_lose ?_)
                        refine a_go (by decide) (v_ireturn d_TS_revoke_122 rfl rfl ?_)
                        exact mm_fiVS hk (mm_ifp c1 (mm_ifn c2 (mm_ifp c3 (mm_ifn c4 (mm_ifp c5 (mm_ifn c6 (mm_ifp c7 (mm_ifn c8 (mm_ifp c9 (mm_ifp c10 rfl))))))))))
                    · skip
                      refine a_go (by decide) (v_iconst d_TS_revoke_95 ki_0 ?_)
                      refine a_go (by decide) (v_ireturn d_TS_revoke_96 rfl rfl ?_)
                      exact mm_fiVS hk (mm_ifp c1 (mm_ifn c2 (mm_ifp c3 (mm_ifn c4 (mm_ifp c5 (mm_ifn c6 (mm_ifp c7 (mm_ifn c8 (mm_ifn c9 rfl)))))))))
                  · skip
                    refine a_go (by decide) (v_bipush d_TS_revoke_84 kb_m103 ?_)
                    refine a_go (by decide) (v_ireturn d_TS_revoke_86 rfl rfl ?_)
                    exact mm_fiVS hk (mm_ifp c1 (mm_ifn c2 (mm_ifp c3 (mm_ifn c4 (mm_ifp c5 (mm_ifn c6 (mm_ifp c7 (mm_ifp c8 rfl))))))))
                · skip
                  refine a_go (by decide) (v_bipush d_TS_revoke_62 kb_m103 ?_)
                  refine a_go (by decide) (v_ireturn d_TS_revoke_64 rfl rfl ?_)
                  exact mm_fiVS hk (mm_ifp c1 (mm_ifn c2 (mm_ifp c3 (mm_ifn c4 (mm_ifp c5 (mm_ifn c6 (mm_ifn c7 rfl)))))))
        · skip
          refine a_go (by decide) (v_bipush d_TS_revoke_22 kb_m101 ?_)
          refine a_go (by decide) (v_ireturn d_TS_revoke_24 rfl rfl ?_)
          exact mm_fiVS hk (mm_ifp c1 (mm_ifn c2 (mm_ifn c3 rfl)))
    · skip
      refine a_go (by decide) (v_bipush d_TS_revoke_10 kb_m100 ?_)
      refine a_go (by decide) (v_ireturn d_TS_revoke_12 rfl rfl ?_)
      exact mm_fiVS hk (mm_ifn c1 rfl)
  · intro as x K _ k pc lv x' h
    cases h
-- TwoSlots.cut(II)I
def e_cut (v0 : Int32) (v1 : Int32) (x : mm_S) : Int32 × mm_S :=
  if (x.1 12) = (0 : Int32) then
    if v0 < (-1 : Int32) then
      ((-102 : Int32), x)
    else
      if (1000 : Int32) < v0 then
        ((-102 : Int32), x)
      else
        if v1 < (0 : Int32) then
          ((-102 : Int32), x)
        else
          if v1 < (64 : Int32) then
            let x1 := mm_setI x 10 v0
            let x2 := mm_setI x1 11 v1
            ((1 : Int32), x2)
          else
            ((-102 : Int32), x)
  else
    ((-100 : Int32), x)
def S_cut : mm_P := fun as x K => ∃ (v0 : Int32) (v1 : Int32), as = [.ref 0, .int v0, .int v1] ∧ K (some (.int (e_cut v0 v1 x).1)) (e_cut v0 v1 x).2
theorem i_cut {v0 : Int32} {v1 : Int32} {x : mm_S} {K : mm_K} (hk : K (some (.int (e_cut v0 v1 x).1)) (e_cut v0 v1 x).2) : S_cut [.ref 0, .int v0, .int v1] x K := ⟨_, _, rfl, hk⟩
def G_cut : mm_G := (FT_TS, CI_TS, CJ_TS, mm_tb [], mm_tb [], none)
def rm_cut : Room := { frames := 0, cells := 0, slots := 0, locals := 0 }
set_option maxRecDepth 10000 in
theorem c_cut (l : Launch) : mm_Con l NW CL TB LC y_TS_cut b_TS_cut 3 (some .int) rm_cut S_cut := by
  refine mm_con G_cut [] (fun _ _ _ _ _ _ _ => False) (by decide +kernel) tb_good LC_u nw_nest ?_ rfl ft_TS ci_TS cj_TS ?_ ?_ ?_ ?_
  · rintro as x K ⟨v0, v1, rfl, -⟩
    exact Nat.le_of_ble_eq_true rfl
  · exact mm_tb_e (fun _ h => absurd h List.not_mem_nil)
  · exact mm_tb_e (fun _ h => absurd h List.not_mem_nil)
  · rintro as x K ⟨v0, v1, rfl, hk⟩
    refine ⟨400, ?_⟩
    refine v_aload_n d_TS_cut_0 rfl ?_
    refine a_go (by decide) (v_getR d_TS_cut_1 rfl rfl rfl ?_)
    refine a_go (by decide) (v_getI d_TS_cut_4 rfl rfl rfl ?_)
    refine a_go (by decide) (v_if_eq d_TS_cut_7 (t := 13) (by decide) (fun c1 => ?_) (fun c1 => ?_))
    · skip
      refine a_go (by decide) (v_iload_n d_TS_cut_13 rfl ?_)
      refine a_go (by decide) (v_iconst d_TS_cut_14 ki_m1 ?_)
      refine a_go (by decide) (v_icmp_lt d_TS_cut_15 (t := 35) (by decide) (fun c2 => ?_) (fun c2 => ?_))
      · skip
        refine a_go (by decide) (v_bipush d_TS_cut_35 kb_m102 ?_)
        refine a_go (by decide) (v_ireturn d_TS_cut_37 rfl rfl ?_)
        exact mm_fiVS hk (mm_ifp c1 (mm_ifp c2 rfl))
      · skip
        refine a_go (by decide) (v_iload_n d_TS_cut_18 rfl ?_)
        refine a_go (by decide) (v_sipush d_TS_cut_19 ks_1000 ?_)
        refine a_go (by decide) (v_icmp_gt d_TS_cut_22 (t := 35) (by decide) (fun c3 => ?_) (fun c3 => ?_))
        · skip
          refine a_go (by decide) (v_bipush d_TS_cut_35 kb_m102 ?_)
          refine a_go (by decide) (v_ireturn d_TS_cut_37 rfl rfl ?_)
          exact mm_fiVS hk (mm_ifp c1 (mm_ifn c2 (mm_ifp c3 rfl)))
        · skip
          refine a_go (by decide) (v_iload_n d_TS_cut_25 rfl ?_)
          refine a_go (by decide) (v_if_lt d_TS_cut_26 (t := 35) (by decide) (fun c4 => ?_) (fun c4 => ?_))
          · skip
            refine a_go (by decide) (v_bipush d_TS_cut_35 kb_m102 ?_)
            refine a_go (by decide) (v_ireturn d_TS_cut_37 rfl rfl ?_)
            exact mm_fiVS hk (mm_ifp c1 (mm_ifn c2 (mm_ifn c3 (mm_ifp c4 rfl))))
          · skip
            refine a_go (by decide) (v_iload_n d_TS_cut_29 rfl ?_)
            refine a_go (by decide) (v_bipush d_TS_cut_30 kb_64 ?_)
            refine a_go (by decide) (v_icmp_lt d_TS_cut_32 (t := 38) (by decide) (fun c5 => ?_) (fun c5 => ?_))
            · skip
              refine a_go (by decide) (v_aload_n d_TS_cut_38 rfl ?_)
              refine a_go (by decide) (v_getR d_TS_cut_39 rfl rfl rfl ?_)
              refine a_go (by decide) (v_iload_n d_TS_cut_42 rfl ?_)
              refine a_go (by decide) (v_putI d_TS_cut_43 rfl rfl rfl ?_)
              refine a_go (by decide) (v_aload_n d_TS_cut_46 rfl ?_)
              refine a_go (by decide) (v_getR d_TS_cut_47 rfl rfl rfl ?_)
              refine a_go (by decide) (v_iload_n d_TS_cut_50 rfl ?_)
              refine a_go (by decide) (v_putI d_TS_cut_51 rfl rfl rfl ?_)
              refine a_go (by decide) (v_iconst d_TS_cut_54 ki_1 ?_)
              refine a_go (by decide) (v_ireturn d_TS_cut_55 rfl rfl ?_)
              exact mm_fiVS hk (mm_ifp c1 (mm_ifn c2 (mm_ifn c3 (mm_ifn c4 (mm_ifp c5 rfl)))))
            · skip
              refine a_go (by decide) (v_bipush d_TS_cut_35 kb_m102 ?_)
              refine a_go (by decide) (v_ireturn d_TS_cut_37 rfl rfl ?_)
              exact mm_fiVS hk (mm_ifp c1 (mm_ifn c2 (mm_ifn c3 (mm_ifn c4 (mm_ifn c5 rfl)))))
    · skip
      refine a_go (by decide) (v_bipush d_TS_cut_10 kb_m100 ?_)
      refine a_go (by decide) (v_ireturn d_TS_cut_12 rfl rfl ?_)
      exact mm_fiVS hk (mm_ifn c1 rfl)
  · intro as x K _ k pc lv x' h
    cases h
-- TwoSlots.start()I
def e_start (x : mm_S) : Int32 × mm_S :=
  if (x.1 12) = (0 : Int32) then
    ((-103 : Int32), x)
  else
    let x1 := mm_setI x 12 (0 : Int32)
    ((1 : Int32), x1)
def S_start : mm_P := fun as x K => as = [.ref 0] ∧ K (some (.int (e_start x).1)) (e_start x).2
theorem i_start {x : mm_S} {K : mm_K} (hk : K (some (.int (e_start x).1)) (e_start x).2) : S_start [.ref 0] x K := ⟨rfl, hk⟩
def G_start : mm_G := (FT_TS, CI_TS, CJ_TS, mm_tb [], mm_tb [], none)
def rm_start : Room := { frames := 0, cells := 0, slots := 0, locals := 0 }
set_option maxRecDepth 10000 in
theorem c_start (l : Launch) : mm_Con l NW CL TB LC y_TS_start b_TS_start 1 (some .int) rm_start S_start := by
  refine mm_con G_start [] (fun _ _ _ _ _ _ _ => False) (by decide +kernel) tb_good LC_u nw_nest ?_ rfl ft_TS ci_TS cj_TS ?_ ?_ ?_ ?_
  · rintro as x K ⟨rfl, -⟩
    exact Nat.le_of_ble_eq_true rfl
  · exact mm_tb_e (fun _ h => absurd h List.not_mem_nil)
  · exact mm_tb_e (fun _ h => absurd h List.not_mem_nil)
  · rintro as x K ⟨rfl, hk⟩
    refine ⟨400, ?_⟩
    refine v_aload_n d_TS_start_0 rfl ?_
    refine a_go (by decide) (v_getR d_TS_start_1 rfl rfl rfl ?_)
    refine a_go (by decide) (v_getI d_TS_start_4 rfl rfl rfl ?_)
    refine a_go (by decide) (v_if_ne d_TS_start_7 (t := 13) (by decide) (fun c1 => ?_) (fun c1 => ?_))
    · skip
      refine a_go (by decide) (v_aload_n d_TS_start_13 rfl ?_)
      refine a_go (by decide) (v_getR d_TS_start_14 rfl rfl rfl ?_)
      refine a_go (by decide) (v_iconst d_TS_start_17 ki_0 ?_)
      refine a_go (by decide) (v_putZ d_TS_start_18 rfl rfl rfl (by decide) ?_)
      refine a_go (by decide) (v_iconst d_TS_start_21 ki_1 ?_)
      refine a_go (by decide) (v_ireturn d_TS_start_22 rfl rfl ?_)
      exact mm_fiVS hk (mm_ifn c1 rfl)
    · skip
      refine a_go (by decide) (v_bipush d_TS_start_10 kb_m103 ?_)
      refine a_go (by decide) (v_ireturn d_TS_start_12 rfl rfl ?_)
      exact mm_fiVS hk (mm_ifp c1 rfl)
  · intro as x K _ k pc lv x' h
    cases h
-- TwoSlots.rot(III)I
def e_rot (v0 : Int32) (v1 : Int32) (v2 : Int32) (x : mm_S) : Int32 × mm_S :=
  if (e_inflash v0 v1 x) = (0 : Int32) then
    ((-101 : Int32), x)
  else
    let y1 := (v0 * (64 : Int32)) + v1
    let x2 := e_putByte 4096 1 y1 ((e_byteAt 4096 1 y1 x) ^^^ v2) x
    let x3 := e_look x2
    (e_byteAt 4096 1 y1 x3, x3)
def S_rot : mm_P := fun as x K => ∃ (v0 : Int32) (v1 : Int32) (v2 : Int32), as = [.ref 0, .int v0, .int v1, .int v2] ∧ K (some (.int (e_rot v0 v1 v2 x).1)) (e_rot v0 v1 v2 x).2
theorem i_rot {v0 : Int32} {v1 : Int32} {v2 : Int32} {x : mm_S} {K : mm_K} (hk : K (some (.int (e_rot v0 v1 v2 x).1)) (e_rot v0 v1 v2 x).2) : S_rot [.ref 0, .int v0, .int v1, .int v2] x K := ⟨_, _, _, rfl, hk⟩
def G_rot : mm_G := (FT_TS, CI_TS, CJ_TS, mm_tb [(224, 2, S_inflash), (139, 2, S_byteAt), (91, 3, S_putByte)], mm_tb [(227, 1, 2, S_look)], none)
def rm_rot : Room := { frames := 3, cells := 0, slots := 0, locals := 65 }
set_option maxRecDepth 10000 in
theorem c_rot (l : Launch) : mm_Con l NW CL TB LC y_TS_rot b_TS_rot 5 (some .int) rm_rot S_rot := by
  refine mm_con G_rot [] (fun _ _ _ _ _ _ _ => False) (by decide +kernel) tb_good LC_u nw_nest ?_ rfl ft_TS ci_TS cj_TS ?_ ?_ ?_ ?_
  · rintro as x K ⟨v0, v1, v2, rfl, -⟩
    exact Nat.le_of_ble_eq_true rfl
  · exact mm_tb_e (List.forall_mem_cons.mpr ⟨mm_cst_i (c_inflash l) (mm_cb_i rfl rfl (by decide) (by decide) tc_TS_isInFlash ti_TS ⟨by decide, by decide, by decide +kernel⟩ (Or.inl tl_TS_224)) ts_TS_isInFlash, List.forall_mem_cons.mpr ⟨mm_cst_i (c_byteAt l) (mm_cb_i rfl rfl (by decide) (by decide) tc_TS_byteAt ti_TS ⟨by decide, by decide, by decide +kernel⟩ (Or.inl tl_TS_139)) ts_TS_byteAt, List.forall_mem_cons.mpr ⟨mm_cst_i (c_putByte l) (mm_cb_i rfl rfl (by decide) (by decide) tc_TS_putByte ti_TS ⟨by decide, by decide, by decide +kernel⟩ (Or.inl tl_TS_91)) ts_TS_putByte, fun _ h => absurd h List.not_mem_nil⟩⟩⟩)
  · exact mm_tb_e (List.forall_mem_cons.mpr ⟨mm_cvt_i (c_look l) (mm_cb_i rfl rfl (by decide) (by decide) tc_LG_look ti_LG ⟨by decide, by decide, by decide +kernel⟩ (Or.inl tl_TS_227)) rfl tv_LG_look tx_LG_look, fun _ h => absurd h List.not_mem_nil⟩)
  · rintro as x K ⟨v0, v1, v2, rfl, hk⟩
    refine ⟨400, ?_⟩
    refine v_iload_n d_TS_rot_0 rfl ?_
    refine a_go (by decide) (v_iload_n d_TS_rot_1 rfl ?_)
    refine a_go (by decide) (v_callS d_TS_rot_2 rfl (mm_spl 2 rfl) rfl (Nat.le_of_ble_eq_true rfl) ?_)
    refine (i_inflash ?_)
    refine a_go (by decide) (v_if_ne d_TS_rot_5 (t := 11) (by decide) (fun c1 => ?_) (fun c1 => ?_))
    · skip
      refine a_go (by decide) (v_iload_n d_TS_rot_11 rfl ?_)
      refine a_go (by decide) (v_bipush d_TS_rot_12 kb_64 ?_)
      refine a_go (by decide) (v_imul d_TS_rot_14 ?_)
      refine a_go (by decide) (v_iload_n d_TS_rot_15 rfl ?_)
      refine a_go (by decide) (v_iadd d_TS_rot_16 ?_)
      refine a_go (by decide) (v_istore d_TS_rot_17 (by decide) ?_)
      refine a_go (by decide) (v_aload_n d_TS_rot_19 rfl ?_)
      refine a_go (by decide) (v_getR d_TS_rot_20 rfl rfl rfl ?_)
      refine a_go (by decide) (v_getR d_TS_rot_23 rfl rfl rfl ?_)
      refine a_go (by decide) (v_iload d_TS_rot_26 rfl ?_)
      refine a_go (by decide) (v_aload_n d_TS_rot_28 rfl ?_)
      refine a_go (by decide) (v_getR d_TS_rot_29 rfl rfl rfl ?_)
      refine a_go (by decide) (v_getR d_TS_rot_32 rfl rfl rfl ?_)
      refine a_go (by decide) (v_iload d_TS_rot_35 rfl ?_)
      refine a_go (by decide) (v_callS d_TS_rot_37 rfl (mm_spl 2 rfl) rfl (Nat.le_of_ble_eq_true rfl) ?_)
      refine (i_byteAt rfl ?_)
      refine a_go (by decide) (v_iload_n d_TS_rot_40 rfl ?_)
      refine a_go (by decide) (v_ixor d_TS_rot_41 ?_)
      refine a_go (by decide) (v_callS d_TS_rot_42 rfl (mm_spl 3 rfl) rfl (Nat.le_of_ble_eq_true rfl) ?_)
      refine (i_putByte rfl ?_)
      refine a_go (by decide) (v_aload_n d_TS_rot_45 rfl ?_)
      refine a_go (by decide) (v_getR d_TS_rot_46 rfl rfl rfl ?_)
      refine a_go (by decide) (v_callV d_TS_rot_49 rfl (mm_spl 1 rfl) rfl (Nat.le_of_ble_eq_true rfl) rfl ?_)
      refine (i_look ?_)
      refine a_go (by decide) (v_aload_n d_TS_rot_52 rfl ?_)
      refine a_go (by decide) (v_getR d_TS_rot_53 rfl rfl rfl ?_)
      refine a_go (by decide) (v_getR d_TS_rot_56 rfl rfl rfl ?_)
      refine a_go (by decide) (v_iload d_TS_rot_59 rfl ?_)
      refine a_go (by decide) (v_callS d_TS_rot_61 rfl (mm_spl 2 rfl) rfl (Nat.le_of_ble_eq_true rfl) ?_)
      refine (i_byteAt rfl ?_)
      refine a_go (by decide) (v_ireturn d_TS_rot_64 rfl rfl ?_)
      exact mm_fiVS hk (mm_ifn c1 rfl)
    · skip
      refine a_go (by decide) (v_bipush d_TS_rot_8 kb_m101 ?_)
      refine a_go (by decide) (v_ireturn d_TS_rot_10 rfl rfl ?_)
      exact mm_fiVS hk (mm_ifp c1 rfl)
  · intro as x K _ k pc lv x' h
    cases h
-- TwoSlots.octet(II)I
def e_octet (v0 : Int32) (v1 : Int32) (x : mm_S) : Int32 :=
  if (e_inflash v0 v1 x) = (0 : Int32) then
    (-101 : Int32)
  else
    e_byteAt 4096 1 ((v0 * (64 : Int32)) + v1) x
def S_octet : mm_P := fun as x K => ∃ (v0 : Int32) (v1 : Int32), as = [.ref 0, .int v0, .int v1] ∧ K (some (.int (e_octet v0 v1 x))) x
theorem i_octet {v0 : Int32} {v1 : Int32} {x : mm_S} {K : mm_K} (hk : K (some (.int (e_octet v0 v1 x))) x) : S_octet [.ref 0, .int v0, .int v1] x K := ⟨_, _, rfl, hk⟩
def G_octet : mm_G := (FT_TS, CI_TS, CJ_TS, mm_tb [(224, 2, S_inflash), (139, 2, S_byteAt)], mm_tb [], none)
def rm_octet : Room := { frames := 1, cells := 0, slots := 0, locals := 21 }
set_option maxRecDepth 10000 in
theorem c_octet (l : Launch) : mm_Con l NW CL TB LC y_TS_octet b_TS_octet 3 (some .int) rm_octet S_octet := by
  refine mm_con G_octet [] (fun _ _ _ _ _ _ _ => False) (by decide +kernel) tb_good LC_u nw_nest ?_ rfl ft_TS ci_TS cj_TS ?_ ?_ ?_ ?_
  · rintro as x K ⟨v0, v1, rfl, -⟩
    exact Nat.le_of_ble_eq_true rfl
  · exact mm_tb_e (List.forall_mem_cons.mpr ⟨mm_cst_i (c_inflash l) (mm_cb_i rfl rfl (by decide) (by decide) tc_TS_isInFlash ti_TS ⟨by decide, by decide, by decide +kernel⟩ (Or.inl tl_TS_224)) ts_TS_isInFlash, List.forall_mem_cons.mpr ⟨mm_cst_i (c_byteAt l) (mm_cb_i rfl rfl (by decide) (by decide) tc_TS_byteAt ti_TS ⟨by decide, by decide, by decide +kernel⟩ (Or.inl tl_TS_139)) ts_TS_byteAt, fun _ h => absurd h List.not_mem_nil⟩⟩)
  · exact mm_tb_e (fun _ h => absurd h List.not_mem_nil)
  · rintro as x K ⟨v0, v1, rfl, hk⟩
    refine ⟨400, ?_⟩
    refine v_iload_n d_TS_octet_0 rfl ?_
    refine a_go (by decide) (v_iload_n d_TS_octet_1 rfl ?_)
    refine a_go (by decide) (v_callS d_TS_octet_2 rfl (mm_spl 2 rfl) rfl (Nat.le_of_ble_eq_true rfl) ?_)
    refine (i_inflash ?_)
    refine a_go (by decide) (v_if_ne d_TS_octet_5 (t := 11) (by decide) (fun c1 => ?_) (fun c1 => ?_))
    · skip
      refine a_go (by decide) (v_aload_n d_TS_octet_11 rfl ?_)
      refine a_go (by decide) (v_getR d_TS_octet_12 rfl rfl rfl ?_)
      refine a_go (by decide) (v_getR d_TS_octet_15 rfl rfl rfl ?_)
      refine a_go (by decide) (v_iload_n d_TS_octet_18 rfl ?_)
      refine a_go (by decide) (v_bipush d_TS_octet_19 kb_64 ?_)
      refine a_go (by decide) (v_imul d_TS_octet_21 ?_)
      refine a_go (by decide) (v_iload_n d_TS_octet_22 rfl ?_)
      refine a_go (by decide) (v_iadd d_TS_octet_23 ?_)
      refine a_go (by decide) (v_callS d_TS_octet_24 rfl (mm_spl 2 rfl) rfl (Nat.le_of_ble_eq_true rfl) ?_)
      refine (i_byteAt rfl ?_)
      refine a_go (by decide) (v_ireturn d_TS_octet_27 rfl rfl ?_)
      exact mm_fiV hk (mm_ifn c1 rfl)
    · skip
      refine a_go (by decide) (v_bipush d_TS_octet_8 kb_m101 ?_)
      refine a_go (by decide) (v_ireturn d_TS_octet_10 rfl rfl ?_)
      exact mm_fiV hk (mm_ifp c1 rfl)
  · intro as x K _ k pc lv x' h
    cases h
-- TwoSlots.running()I
def e_running (x : mm_S) : Int32 :=
  if (x.1 12) = (0 : Int32) then
    x.1 3
  else
    (-100 : Int32)
def S_running : mm_P := fun as x K => as = [.ref 0] ∧ K (some (.int (e_running x))) x
theorem i_running {x : mm_S} {K : mm_K} (hk : K (some (.int (e_running x))) x) : S_running [.ref 0] x K := ⟨rfl, hk⟩
def G_running : mm_G := (FT_TS, CI_TS, CJ_TS, mm_tb [], mm_tb [], none)
def rm_running : Room := { frames := 0, cells := 0, slots := 0, locals := 0 }
set_option maxRecDepth 10000 in
theorem c_running (l : Launch) : mm_Con l NW CL TB LC y_TS_running b_TS_running 1 (some .int) rm_running S_running := by
  refine mm_con G_running [] (fun _ _ _ _ _ _ _ => False) (by decide +kernel) tb_good LC_u nw_nest ?_ rfl ft_TS ci_TS cj_TS ?_ ?_ ?_ ?_
  · rintro as x K ⟨rfl, -⟩
    exact Nat.le_of_ble_eq_true rfl
  · exact mm_tb_e (fun _ h => absurd h List.not_mem_nil)
  · exact mm_tb_e (fun _ h => absurd h List.not_mem_nil)
  · rintro as x K ⟨rfl, hk⟩
    refine ⟨400, ?_⟩
    refine v_aload_n d_TS_running_0 rfl ?_
    refine a_go (by decide) (v_getR d_TS_running_1 rfl rfl rfl ?_)
    refine a_go (by decide) (v_getI d_TS_running_4 rfl rfl rfl ?_)
    refine a_go (by decide) (v_if_eq d_TS_running_7 (t := 15) (by decide) (fun c1 => ?_) (fun c1 => ?_))
    · skip
      refine a_go (by decide) (v_aload_n d_TS_running_15 rfl ?_)
      refine a_go (by decide) (v_getI d_TS_running_16 rfl rfl rfl ?_)
      refine a_go (by decide) (v_ireturn d_TS_running_19 rfl rfl ?_)
      exact mm_fiV hk (mm_ifp c1 rfl)
    · skip
      refine a_go (by decide) (v_bipush d_TS_running_10 kb_m100 ?_)
      refine a_go (by decide) (v_goto d_TS_running_12 (t := 19) (by decide) ?_)
      refine a_go (by decide) (v_ireturn d_TS_running_19 rfl rfl ?_)
      exact mm_fiV hk (mm_ifn c1 rfl)
  · intro as x K _ k pc lv x' h
    cases h
-- TwoSlots.watchdog()I
def e_watchdog (x : mm_S) : Int32 :=
  if (x.1 12) = (0 : Int32) then
    x.1 4
  else
    (-100 : Int32)
def S_watchdog : mm_P := fun as x K => as = [.ref 0] ∧ K (some (.int (e_watchdog x))) x
theorem i_watchdog {x : mm_S} {K : mm_K} (hk : K (some (.int (e_watchdog x))) x) : S_watchdog [.ref 0] x K := ⟨rfl, hk⟩
def G_watchdog : mm_G := (FT_TS, CI_TS, CJ_TS, mm_tb [], mm_tb [], none)
def rm_watchdog : Room := { frames := 0, cells := 0, slots := 0, locals := 0 }
set_option maxRecDepth 10000 in
theorem c_watchdog (l : Launch) : mm_Con l NW CL TB LC y_TS_watchdog b_TS_watchdog 1 (some .int) rm_watchdog S_watchdog := by
  refine mm_con G_watchdog [] (fun _ _ _ _ _ _ _ => False) (by decide +kernel) tb_good LC_u nw_nest ?_ rfl ft_TS ci_TS cj_TS ?_ ?_ ?_ ?_
  · rintro as x K ⟨rfl, -⟩
    exact Nat.le_of_ble_eq_true rfl
  · exact mm_tb_e (fun _ h => absurd h List.not_mem_nil)
  · exact mm_tb_e (fun _ h => absurd h List.not_mem_nil)
  · rintro as x K ⟨rfl, hk⟩
    refine ⟨400, ?_⟩
    refine v_aload_n d_TS_watchdog_0 rfl ?_
    refine a_go (by decide) (v_getR d_TS_watchdog_1 rfl rfl rfl ?_)
    refine a_go (by decide) (v_getI d_TS_watchdog_4 rfl rfl rfl ?_)
    refine a_go (by decide) (v_if_eq d_TS_watchdog_7 (t := 15) (by decide) (fun c1 => ?_) (fun c1 => ?_))
    · skip
      refine a_go (by decide) (v_aload_n d_TS_watchdog_15 rfl ?_)
      refine a_go (by decide) (v_getI d_TS_watchdog_16 rfl rfl rfl ?_)
      refine a_go (by decide) (v_ireturn d_TS_watchdog_19 rfl rfl ?_)
      exact mm_fiV hk (mm_ifp c1 rfl)
    · skip
      refine a_go (by decide) (v_bipush d_TS_watchdog_10 kb_m100 ?_)
      refine a_go (by decide) (v_goto d_TS_watchdog_12 (t := 19) (by decide) ?_)
      refine a_go (by decide) (v_ireturn d_TS_watchdog_19 rfl rfl ?_)
      exact mm_fiV hk (mm_ifn c1 rfl)
  · intro as x K _ k pc lv x' h
    cases h
-- TwoSlots.slot(II)I
def e_slot (v0 : Int32) (v1 : Int32) (x : mm_S) : Int32 × mm_S :=
  if v0 < (0 : Int32) then
    ((-101 : Int32), x)
  else
    if v0 < (2 : Int32) then
      if v1 < (0 : Int32) then
        ((-102 : Int32), x)
      else
        if v1 ≤ (4 : Int32) then
          let x1 := e_readHeader v0 x
          if (e_isRight x1) = (0 : Int32) then
            ((0 : Int32), x1)
          else
            if v1 = (0 : Int32) then
              let q2 := e_isGood v0 x1
              if q2.1 = (0 : Int32) then
                ((0 : Int32), q2.2)
              else
                ((1 : Int32), q2.2)
            else
              if v1 = (1 : Int32) then
                ((1 : Int32), x1)
              else
                if v1 = (2 : Int32) then
                  (e_hs_version x1, x1)
                else
                  if v1 = (3 : Int32) then
                    (e_hs_size x1, x1)
                  else
                    (e_hs_key x1, x1)
        else
          ((-102 : Int32), x)
    else
      ((-101 : Int32), x)
def S_slot : mm_P := fun as x K => ∃ (v0 : Int32) (v1 : Int32), as = [.ref 0, .int v0, .int v1] ∧ K (some (.int (e_slot v0 v1 x).1)) (e_slot v0 v1 x).2
theorem i_slot {v0 : Int32} {v1 : Int32} {x : mm_S} {K : mm_K} (hk : K (some (.int (e_slot v0 v1 x).1)) (e_slot v0 v1 x).2) : S_slot [.ref 0, .int v0, .int v1] x K := ⟨_, _, rfl, hk⟩
def G_slot : mm_G := (FT_TS, CI_TS, CJ_TS, mm_tb [], mm_tb [(195, 2, 0, S_readHeader), (154, 1, 0, S_isRight), (230, 2, 0, S_isGood), (157, 1, 4, S_hs_version), (176, 1, 4, S_hs_size), (207, 1, 4, S_hs_key)], none)
def rm_slot : Room := { frames := 5, cells := 0, slots := 0, locals := 113 }
set_option maxRecDepth 10000 in
theorem c_slot (l : Launch) : mm_Con l NW CL TB LC y_TS_slot b_TS_slot 3 (some .int) rm_slot S_slot := by
  refine mm_con G_slot [] (fun _ _ _ _ _ _ _ => False) (by decide +kernel) tb_good LC_u nw_nest ?_ rfl ft_TS ci_TS cj_TS ?_ ?_ ?_ ?_
  · rintro as x K ⟨v0, v1, rfl, -⟩
    exact Nat.le_of_ble_eq_true rfl
  · exact mm_tb_e (fun _ h => absurd h List.not_mem_nil)
  · exact mm_tb_e (List.forall_mem_cons.mpr ⟨mm_cvt_i (c_readHeader l) (mm_cb_i rfl rfl (by decide) (by decide) tc_TS_readHeader ti_TS ⟨by decide, by decide, by decide +kernel⟩ (Or.inl tl_TS_195)) rfl tv_TS_readHeader tx_TS_readHeader, List.forall_mem_cons.mpr ⟨mm_cvt_i (c_isRight l) (mm_cb_i rfl rfl (by decide) (by decide) tc_TS_isSheetRight ti_TS ⟨by decide, by decide, by decide +kernel⟩ (Or.inl tl_TS_154)) rfl tv_TS_isSheetRight tx_TS_isSheetRight, List.forall_mem_cons.mpr ⟨mm_cvt_i (c_isGood l) (mm_cb_i rfl rfl (by decide) (by decide) tc_TS_isGood ti_TS ⟨by decide, by decide, by decide +kernel⟩ (Or.inl tl_TS_230)) rfl tv_TS_isGood tx_TS_isGood, List.forall_mem_cons.mpr ⟨mm_cvt_i (c_hs_version l) (mm_cb_i rfl rfl (by decide) (by decide) tc_HD_version ti_HD ⟨by decide, by decide, by decide +kernel⟩ (Or.inl tl_TS_157)) rfl tv_HD_version tx_HD_version, List.forall_mem_cons.mpr ⟨mm_cvt_i (c_hs_size l) (mm_cb_i rfl rfl (by decide) (by decide) tc_HD_size ti_HD ⟨by decide, by decide, by decide +kernel⟩ (Or.inl tl_TS_176)) rfl tv_HD_size tx_HD_size, List.forall_mem_cons.mpr ⟨mm_cvt_i (c_hs_key l) (mm_cb_i rfl rfl (by decide) (by decide) tc_HD_key ti_HD ⟨by decide, by decide, by decide +kernel⟩ (Or.inl tl_TS_207)) rfl tv_HD_key tx_HD_key, fun _ h => absurd h List.not_mem_nil⟩⟩⟩⟩⟩⟩)
  · rintro as x K ⟨v0, v1, rfl, hk⟩
    refine ⟨400, ?_⟩
    refine v_iload_n d_TS_slot_0 rfl ?_
    refine a_go (by decide) (v_if_lt d_TS_slot_1 (t := 9) (by decide) (fun c1 => ?_) (fun c1 => ?_))
    · skip
      refine a_go (by decide) (v_bipush d_TS_slot_9 kb_m101 ?_)
      refine a_go (by decide) (v_ireturn d_TS_slot_11 rfl rfl ?_)
      exact mm_fiVS hk (mm_ifp c1 rfl)
    · skip
      refine a_go (by decide) (v_iload_n d_TS_slot_4 rfl ?_)
      refine a_go (by decide) (v_iconst d_TS_slot_5 ki_2 ?_)
      refine a_go (by decide) (v_icmp_lt d_TS_slot_6 (t := 12) (by decide) (fun c2 => ?_) (fun c2 => ?_))
      · skip
        refine a_go (by decide) (v_iload_n d_TS_slot_12 rfl ?_)
        refine a_go (by decide) (v_if_lt d_TS_slot_13 (t := 21) (by decide) (fun c3 => ?_) (fun c3 => ?_))
        · skip
          refine a_go (by decide) (v_bipush d_TS_slot_21 kb_m102 ?_)
          refine a_go (by decide) (v_ireturn d_TS_slot_23 rfl rfl ?_)
          exact mm_fiVS hk (mm_ifn c1 (mm_ifp c2 (mm_ifp c3 rfl)))
        · skip
          refine a_go (by decide) (v_iload_n d_TS_slot_16 rfl ?_)
          refine a_go (by decide) (v_iconst d_TS_slot_17 ki_4 ?_)
          refine a_go (by decide) (v_icmp_le d_TS_slot_18 (t := 24) (by decide) (fun c4 => ?_) (fun c4 => ?_))
          · skip
            refine a_go (by decide) (v_aload_n d_TS_slot_24 rfl ?_)
            refine a_go (by decide) (v_iload_n d_TS_slot_25 rfl ?_)
            refine a_go (by decide) (v_callV d_TS_slot_26 rfl (mm_spl 2 rfl) rfl (Nat.le_of_ble_eq_true rfl) rfl ?_)
            refine (i_readHeader ?_)
            refine a_go (by decide) (v_aload_n d_TS_slot_29 rfl ?_)
            refine a_go (by decide) (v_callV d_TS_slot_30 rfl (mm_spl 1 rfl) rfl (Nat.le_of_ble_eq_true rfl) rfl ?_)
            refine (i_isRight ?_)
            refine a_go (by decide) (v_if_ne d_TS_slot_33 (t := 38) (by decide) (fun c5 => ?_) (fun c5 => ?_))
            · skip
              refine a_go (by decide) (v_iload_n d_TS_slot_38 rfl ?_)
              refine a_go (by decide) (v_sw d_TS_slot_39 (by decide) (by decide) (by decide) (by decide) ?_)
              refine sw_c (w := (0 : Int32)) (t := 68) (by decide) (by decide) (fun c6 => ?_) (fun c6 => ?_)
              · skip
                refine a_go (by decide) (v_aload_n d_TS_slot_68 rfl ?_)
                refine a_go (by decide) (v_iload_n d_TS_slot_69 rfl ?_)
                refine a_go (by decide) (v_callV d_TS_slot_70 rfl (mm_spl 2 rfl) rfl (Nat.le_of_ble_eq_true rfl) rfl ?_)
                refine (i_isGood ?_)
                refine a_go (by decide) (v_if_eq d_TS_slot_73 (t := 80) (by decide) (fun c7 => ?_) (fun c7 => ?_))
                · skip
                  refine a_go (by decide) (v_iconst d_TS_slot_80 ki_0 ?_)
                  refine a_go (by decide) (v_ireturn d_TS_slot_81 rfl rfl ?_)
                  exact mm_fiVS hk (mm_ifn c1 (mm_ifp c2 (mm_ifn c3 (mm_ifp c4 (mm_ifn c5 (mm_ifp c6 (mm_ifp c7 rfl)))))))
                · skip
                  refine a_go (by decide) (v_iconst d_TS_slot_76 ki_1 ?_)
                  refine a_go (by decide) (v_goto d_TS_slot_77 (t := 81) (by decide) ?_)
                  refine a_go (by decide) (v_ireturn d_TS_slot_81 rfl rfl ?_)
                  exact mm_fiVS hk (mm_ifn c1 (mm_ifp c2 (mm_ifn c3 (mm_ifp c4 (mm_ifn c5 (mm_ifp c6 (mm_ifn c7 rfl)))))))
              refine sw_c (w := (1 : Int32)) (t := 82) (by decide) (by decide) (fun c8 => ?_) (fun c8 => ?_)
              · skip
                refine a_go (by decide) (v_iconst d_TS_slot_82 ki_1 ?_)
                refine a_go (by decide) (v_ireturn d_TS_slot_83 rfl rfl ?_)
                exact mm_fiVS hk (mm_ifn c1 (mm_ifp c2 (mm_ifn c3 (mm_ifp c4 (mm_ifn c5 (mm_ifn c6 (mm_ifp c8 rfl)))))))
              refine sw_c (w := (2 : Int32)) (t := 84) (by decide) (by decide) (fun c9 => ?_) (fun c9 => ?_)
              · skip
                refine a_go (by decide) (v_aload_n d_TS_slot_84 rfl ?_)
                refine a_go (by decide) (v_getR d_TS_slot_85 rfl rfl rfl ?_)
                refine a_go (by decide) (v_callV d_TS_slot_88 rfl (mm_spl 1 rfl) rfl (Nat.le_of_ble_eq_true rfl) rfl ?_)
                refine (i_hs_version ?_)
                refine a_go (by decide) (v_ireturn d_TS_slot_91 rfl rfl ?_)
                exact mm_fiVS hk (mm_ifn c1 (mm_ifp c2 (mm_ifn c3 (mm_ifp c4 (mm_ifn c5 (mm_ifn c6 (mm_ifn c8 (mm_ifp c9 rfl))))))))
              refine sw_c (w := (3 : Int32)) (t := 92) (by decide) (by decide) (fun c10 => ?_) (fun c10 => ?_)
              · skip
                refine a_go (by decide) (v_aload_n d_TS_slot_92 rfl ?_)
                refine a_go (by decide) (v_getR d_TS_slot_93 rfl rfl rfl ?_)
                refine a_go (by decide) (v_callV d_TS_slot_96 rfl (mm_spl 1 rfl) rfl (Nat.le_of_ble_eq_true rfl) rfl ?_)
                refine (i_hs_size ?_)
                refine a_go (by decide) (v_ireturn d_TS_slot_99 rfl rfl ?_)
                exact mm_fiVS hk (mm_ifn c1 (mm_ifp c2 (mm_ifn c3 (mm_ifp c4 (mm_ifn c5 (mm_ifn c6 (mm_ifn c8 (mm_ifn c9 (mm_ifp c10 rfl)))))))))
              refine sw_n (t := 100) (by decide) ?_
              refine a_go (by decide) (v_aload_n d_TS_slot_100 rfl ?_)
              refine a_go (by decide) (v_getR d_TS_slot_101 rfl rfl rfl ?_)
              refine a_go (by decide) (v_callV d_TS_slot_104 rfl (mm_spl 1 rfl) rfl (Nat.le_of_ble_eq_true rfl) rfl ?_)
              refine (i_hs_key ?_)
              refine a_go (by decide) (v_ireturn d_TS_slot_107 rfl rfl ?_)
              exact mm_fiVS hk (mm_ifn c1 (mm_ifp c2 (mm_ifn c3 (mm_ifp c4 (mm_ifn c5 (mm_ifn c6 (mm_ifn c8 (mm_ifn c9 (mm_ifn c10 rfl)))))))))
            · skip
              refine a_go (by decide) (v_iconst d_TS_slot_36 ki_0 ?_)
              refine a_go (by decide) (v_ireturn d_TS_slot_37 rfl rfl ?_)
              exact mm_fiVS hk (mm_ifn c1 (mm_ifp c2 (mm_ifn c3 (mm_ifp c4 (mm_ifp c5 rfl)))))
          · skip
            refine a_go (by decide) (v_bipush d_TS_slot_21 kb_m102 ?_)
            refine a_go (by decide) (v_ireturn d_TS_slot_23 rfl rfl ?_)
            exact mm_fiVS hk (mm_ifn c1 (mm_ifp c2 (mm_ifn c3 (mm_ifn c4 rfl))))
      · skip
        refine a_go (by decide) (v_bipush d_TS_slot_9 kb_m101 ?_)
        refine a_go (by decide) (v_ireturn d_TS_slot_11 rfl rfl ?_)
        exact mm_fiVS hk (mm_ifn c1 (mm_ifn c2 rfl))
  · intro as x K _ k pc lv x' h
    cases h
-- TwoSlots.record(I)I
def e_record (v0 : Int32) (x : mm_S) : Int32 :=
  if v0 < (0 : Int32) then
    (-102 : Int32)
  else
    if v0 ≤ (7 : Int32) then
      if (x.1 21) = (-1 : Int32) then
        (-1 : Int32)
      else
        if v0 = (0 : Int32) then
          x.1 22
        else
          if v0 = (1 : Int32) then
            x.1 23
          else
            if v0 = (2 : Int32) then
              x.1 24
            else
              if v0 = (3 : Int32) then
                x.1 25
              else
                if v0 = (4 : Int32) then
                  x.1 26
                else
                  if v0 = (5 : Int32) then
                    x.1 27
                  else
                    if v0 = (6 : Int32) then
                      (x.1 21) / (64 : Int32)
                    else
                      ((x.1 21) - (x.1 21) / (64 : Int32) * (64 : Int32)) / (16 : Int32)
    else
      (-102 : Int32)
def S_record : mm_P := fun as x K => ∃ (v0 : Int32), as = [.ref 0, .int v0] ∧ K (some (.int (e_record v0 x))) x
theorem i_record {v0 : Int32} {x : mm_S} {K : mm_K} (hk : K (some (.int (e_record v0 x))) x) : S_record [.ref 0, .int v0] x K := ⟨_, rfl, hk⟩
def G_record : mm_G := (FT_TS, CI_TS, CJ_TS, mm_tb [], mm_tb [], none)
def rm_record : Room := { frames := 0, cells := 0, slots := 0, locals := 0 }
set_option maxRecDepth 10000 in
theorem c_record (l : Launch) : mm_Con l NW CL TB LC y_TS_record b_TS_record 2 (some .int) rm_record S_record := by
  refine mm_con G_record [] (fun _ _ _ _ _ _ _ => False) (by decide +kernel) tb_good LC_u nw_nest ?_ rfl ft_TS ci_TS cj_TS ?_ ?_ ?_ ?_
  · rintro as x K ⟨v0, rfl, -⟩
    exact Nat.le_of_ble_eq_true rfl
  · exact mm_tb_e (fun _ h => absurd h List.not_mem_nil)
  · exact mm_tb_e (fun _ h => absurd h List.not_mem_nil)
  · rintro as x K ⟨v0, rfl, hk⟩
    refine ⟨400, ?_⟩
    refine v_iload_n d_TS_record_0 rfl ?_
    refine a_go (by decide) (v_if_lt d_TS_record_1 (t := 10) (by decide) (fun c1 => ?_) (fun c1 => ?_))
    · skip
      refine a_go (by decide) (v_bipush d_TS_record_10 kb_m102 ?_)
      refine a_go (by decide) (v_ireturn d_TS_record_12 rfl rfl ?_)
      exact mm_fiV hk (mm_ifp c1 rfl)
    · skip
      refine a_go (by decide) (v_iload_n d_TS_record_4 rfl ?_)
      refine a_go (by decide) (v_bipush d_TS_record_5 kb_7 ?_)
      refine a_go (by decide) (v_icmp_le d_TS_record_7 (t := 13) (by decide) (fun c2 => ?_) (fun c2 => ?_))
      · skip
        refine a_go (by decide) (v_aload_n d_TS_record_13 rfl ?_)
        refine a_go (by decide) (v_getR d_TS_record_14 rfl rfl rfl ?_)
        refine a_go (by decide) (v_getI d_TS_record_17 rfl rfl rfl ?_)
        refine a_go (by decide) (v_iconst d_TS_record_20 ki_m1 ?_)
        refine a_go (by decide) (v_icmp_ne d_TS_record_21 (t := 26) (by decide) (fun c3 => ?_) (fun c3 => ?_))
        · skip
          refine a_go (by decide) (v_iload_n d_TS_record_26 rfl ?_)
          refine a_go (by decide) (v_sw d_TS_record_27 (by decide) (by decide) (by decide) (by decide) ?_)
          refine sw_c (w := (0 : Int32)) (t := 68) (by decide) (by decide) (fun c4 => ?_) (fun c4 => ?_)
          · skip
            refine a_go (by decide) (v_aload_n d_TS_record_68 rfl ?_)
            refine a_go (by decide) (v_getR d_TS_record_69 rfl rfl rfl ?_)
            refine a_go (by decide) (v_getI d_TS_record_72 rfl rfl rfl ?_)
            refine a_go (by decide) (v_ireturn d_TS_record_75 rfl rfl ?_)
            exact mm_fiV hk (mm_ifn c1 (mm_ifp c2 (mm_ifn c3 (mm_ifp c4 rfl))))
          refine sw_c (w := (1 : Int32)) (t := 76) (by decide) (by decide) (fun c5 => ?_) (fun c5 => ?_)
          · skip
            refine a_go (by decide) (v_aload_n d_TS_record_76 rfl ?_)
            refine a_go (by decide) (v_getR d_TS_record_77 rfl rfl rfl ?_)
            refine a_go (by decide) (v_getI d_TS_record_80 rfl rfl rfl ?_)
            refine a_go (by decide) (v_ireturn d_TS_record_83 rfl rfl ?_)
            exact mm_fiV hk (mm_ifn c1 (mm_ifp c2 (mm_ifn c3 (mm_ifn c4 (mm_ifp c5 rfl)))))
          refine sw_c (w := (2 : Int32)) (t := 84) (by decide) (by decide) (fun c6 => ?_) (fun c6 => ?_)
          · skip
            refine a_go (by decide) (v_aload_n d_TS_record_84 rfl ?_)
            refine a_go (by decide) (v_getR d_TS_record_85 rfl rfl rfl ?_)
            refine a_go (by decide) (v_getI d_TS_record_88 rfl rfl rfl ?_)
            refine a_go (by decide) (v_ireturn d_TS_record_91 rfl rfl ?_)
            exact mm_fiV hk (mm_ifn c1 (mm_ifp c2 (mm_ifn c3 (mm_ifn c4 (mm_ifn c5 (mm_ifp c6 rfl))))))
          refine sw_c (w := (3 : Int32)) (t := 92) (by decide) (by decide) (fun c7 => ?_) (fun c7 => ?_)
          · skip
            refine a_go (by decide) (v_aload_n d_TS_record_92 rfl ?_)
            refine a_go (by decide) (v_getR d_TS_record_93 rfl rfl rfl ?_)
            refine a_go (by decide) (v_getI d_TS_record_96 rfl rfl rfl ?_)
            refine a_go (by decide) (v_ireturn d_TS_record_99 rfl rfl ?_)
            exact mm_fiV hk (mm_ifn c1 (mm_ifp c2 (mm_ifn c3 (mm_ifn c4 (mm_ifn c5 (mm_ifn c6 (mm_ifp c7 rfl)))))))
          refine sw_c (w := (4 : Int32)) (t := 100) (by decide) (by decide) (fun c8 => ?_) (fun c8 => ?_)
          · skip
            refine a_go (by decide) (v_aload_n d_TS_record_100 rfl ?_)
            refine a_go (by decide) (v_getR d_TS_record_101 rfl rfl rfl ?_)
            refine a_go (by decide) (v_getI d_TS_record_104 rfl rfl rfl ?_)
            refine a_go (by decide) (v_ireturn d_TS_record_107 rfl rfl ?_)
            exact mm_fiV hk (mm_ifn c1 (mm_ifp c2 (mm_ifn c3 (mm_ifn c4 (mm_ifn c5 (mm_ifn c6 (mm_ifn c7 (mm_ifp c8 rfl))))))))
          refine sw_c (w := (5 : Int32)) (t := 108) (by decide) (by decide) (fun c9 => ?_) (fun c9 => ?_)
          · skip
            refine a_go (by decide) (v_aload_n d_TS_record_108 rfl ?_)
            refine a_go (by decide) (v_getR d_TS_record_109 rfl rfl rfl ?_)
            refine a_go (by decide) (v_getI d_TS_record_112 rfl rfl rfl ?_)
            refine a_go (by decide) (v_ireturn d_TS_record_115 rfl rfl ?_)
            exact mm_fiV hk (mm_ifn c1 (mm_ifp c2 (mm_ifn c3 (mm_ifn c4 (mm_ifn c5 (mm_ifn c6 (mm_ifn c7 (mm_ifn c8 (mm_ifp c9 rfl)))))))))
          refine sw_c (w := (6 : Int32)) (t := 116) (by decide) (by decide) (fun c10 => ?_) (fun c10 => ?_)
          · skip
            refine a_go (by decide) (v_aload_n d_TS_record_116 rfl ?_)
            refine a_go (by decide) (v_getR d_TS_record_117 rfl rfl rfl ?_)
            refine a_go (by decide) (v_getI d_TS_record_120 rfl rfl rfl ?_)
            refine a_go (by decide) (v_bipush d_TS_record_123 kb_64 ?_)
            refine a_go (by decide) (v_idiv d_TS_record_125 (by decide) ?_)
            refine a_go (by decide) (v_ireturn d_TS_record_126 rfl rfl ?_)
            exact mm_fiV hk (mm_ifn c1 (mm_ifp c2 (mm_ifn c3 (mm_ifn c4 (mm_ifn c5 (mm_ifn c6 (mm_ifn c7 (mm_ifn c8 (mm_ifn c9 (mm_ifp c10 rfl))))))))))
          refine sw_n (t := 127) (by decide) ?_
          refine a_go (by decide) (v_aload_n d_TS_record_127 rfl ?_)
          refine a_go (by decide) (v_getR d_TS_record_128 rfl rfl rfl ?_)
          refine a_go (by decide) (v_getI d_TS_record_131 rfl rfl rfl ?_)
          refine a_go (by decide) (v_bipush d_TS_record_134 kb_64 ?_)
          refine a_go (by decide) (v_irem d_TS_record_136 (by decide) ?_)
          refine a_go (by decide) (v_bipush d_TS_record_137 kb_16 ?_)
          refine a_go (by decide) (v_idiv d_TS_record_139 (by decide) ?_)
          refine a_go (by decide) (v_ireturn d_TS_record_140 rfl rfl ?_)
          exact mm_fiV hk (mm_ifn c1 (mm_ifp c2 (mm_ifn c3 (mm_ifn c4 (mm_ifn c5 (mm_ifn c6 (mm_ifn c7 (mm_ifn c8 (mm_ifn c9 (mm_ifn c10 rfl))))))))))
        · skip
          refine a_go (by decide) (v_iconst d_TS_record_24 ki_m1 ?_)
          refine a_go (by decide) (v_ireturn d_TS_record_25 rfl rfl ?_)
          exact mm_fiV hk (mm_ifn c1 (mm_ifp c2 (mm_ifp c3 rfl)))
      · skip
        refine a_go (by decide) (v_bipush d_TS_record_10 kb_m102 ?_)
        refine a_go (by decide) (v_ireturn d_TS_record_12 rfl rfl ?_)
        exact mm_fiV hk (mm_ifn c1 (mm_ifn c2 rfl))
  · intro as x K _ k pc lv x' h
    cases h
-- TwoSlots.count(I)I
def e_count (v0 : Int32) (x : mm_S) : Int32 :=
  if v0 = (0 : Int32) then
    x.1 13
  else
    if v0 = (1 : Int32) then
      x.1 14
    else
      if v0 = (2 : Int32) then
        x.1 20
      else
        if v0 = (3 : Int32) then
          x.1 5
        else
          if v0 = (4 : Int32) then
            x.1 6
          else
            if v0 = (5 : Int32) then
              x.1 7
            else
              if v0 = (6 : Int32) then
                x.1 8
              else
                if v0 = (7 : Int32) then
                  x.1 0
                else
                  if v0 = (8 : Int32) then
                    x.1 2
                  else
                    (-102 : Int32)
def S_count : mm_P := fun as x K => ∃ (v0 : Int32), as = [.ref 0, .int v0] ∧ K (some (.int (e_count v0 x))) x
theorem i_count {v0 : Int32} {x : mm_S} {K : mm_K} (hk : K (some (.int (e_count v0 x))) x) : S_count [.ref 0, .int v0] x K := ⟨_, rfl, hk⟩
def G_count : mm_G := (FT_TS, CI_TS, CJ_TS, mm_tb [], mm_tb [], none)
def rm_count : Room := { frames := 0, cells := 0, slots := 0, locals := 0 }
set_option maxRecDepth 10000 in
theorem c_count (l : Launch) : mm_Con l NW CL TB LC y_TS_count b_TS_count 2 (some .int) rm_count S_count := by
  refine mm_con G_count [] (fun _ _ _ _ _ _ _ => False) (by decide +kernel) tb_good LC_u nw_nest ?_ rfl ft_TS ci_TS cj_TS ?_ ?_ ?_ ?_
  · rintro as x K ⟨v0, rfl, -⟩
    exact Nat.le_of_ble_eq_true rfl
  · exact mm_tb_e (fun _ h => absurd h List.not_mem_nil)
  · exact mm_tb_e (fun _ h => absurd h List.not_mem_nil)
  · rintro as x K ⟨v0, rfl, hk⟩
    refine ⟨400, ?_⟩
    refine v_iload_n d_TS_count_0 rfl ?_
    refine a_go (by decide) (v_sw d_TS_count_1 (by decide) (by decide) (by decide) (by decide) ?_)
    refine sw_c (w := (0 : Int32)) (t := 52) (by decide) (by decide) (fun c1 => ?_) (fun c1 => ?_)
    · skip
      refine a_go (by decide) (v_aload_n d_TS_count_52 rfl ?_)
      refine a_go (by decide) (v_getR d_TS_count_53 rfl rfl rfl ?_)
      refine a_go (by decide) (v_getI d_TS_count_56 rfl rfl rfl ?_)
      refine a_go (by decide) (v_ireturn d_TS_count_59 rfl rfl ?_)
      exact mm_fiV hk (mm_ifp c1 rfl)
    refine sw_c (w := (1 : Int32)) (t := 60) (by decide) (by decide) (fun c2 => ?_) (fun c2 => ?_)
    · skip
      refine a_go (by decide) (v_aload_n d_TS_count_60 rfl ?_)
      refine a_go (by decide) (v_getR d_TS_count_61 rfl rfl rfl ?_)
      refine a_go (by decide) (v_getI d_TS_count_64 rfl rfl rfl ?_)
      refine a_go (by decide) (v_ireturn d_TS_count_67 rfl rfl ?_)
      exact mm_fiV hk (mm_ifn c1 (mm_ifp c2 rfl))
    refine sw_c (w := (2 : Int32)) (t := 68) (by decide) (by decide) (fun c3 => ?_) (fun c3 => ?_)
    · skip
      refine a_go (by decide) (v_aload_n d_TS_count_68 rfl ?_)
      refine a_go (by decide) (v_getR d_TS_count_69 rfl rfl rfl ?_)
      refine a_go (by decide) (v_getI d_TS_count_72 rfl rfl rfl ?_)
      refine a_go (by decide) (v_ireturn d_TS_count_75 rfl rfl ?_)
      exact mm_fiV hk (mm_ifn c1 (mm_ifn c2 (mm_ifp c3 rfl)))
    refine sw_c (w := (3 : Int32)) (t := 76) (by decide) (by decide) (fun c4 => ?_) (fun c4 => ?_)
    · skip
      refine a_go (by decide) (v_aload_n d_TS_count_76 rfl ?_)
      refine a_go (by decide) (v_getI d_TS_count_77 rfl rfl rfl ?_)
      refine a_go (by decide) (v_ireturn d_TS_count_80 rfl rfl ?_)
      exact mm_fiV hk (mm_ifn c1 (mm_ifn c2 (mm_ifn c3 (mm_ifp c4 rfl))))
    refine sw_c (w := (4 : Int32)) (t := 81) (by decide) (by decide) (fun c5 => ?_) (fun c5 => ?_)
    · skip
      refine a_go (by decide) (v_aload_n d_TS_count_81 rfl ?_)
      refine a_go (by decide) (v_getI d_TS_count_82 rfl rfl rfl ?_)
      refine a_go (by decide) (v_ireturn d_TS_count_85 rfl rfl ?_)
      exact mm_fiV hk (mm_ifn c1 (mm_ifn c2 (mm_ifn c3 (mm_ifn c4 (mm_ifp c5 rfl)))))
    refine sw_c (w := (5 : Int32)) (t := 86) (by decide) (by decide) (fun c6 => ?_) (fun c6 => ?_)
    · skip
      refine a_go (by decide) (v_aload_n d_TS_count_86 rfl ?_)
      refine a_go (by decide) (v_getI d_TS_count_87 rfl rfl rfl ?_)
      refine a_go (by decide) (v_ireturn d_TS_count_90 rfl rfl ?_)
      exact mm_fiV hk (mm_ifn c1 (mm_ifn c2 (mm_ifn c3 (mm_ifn c4 (mm_ifn c5 (mm_ifp c6 rfl))))))
    refine sw_c (w := (6 : Int32)) (t := 91) (by decide) (by decide) (fun c7 => ?_) (fun c7 => ?_)
    · skip
      refine a_go (by decide) (v_aload_n d_TS_count_91 rfl ?_)
      refine a_go (by decide) (v_getI d_TS_count_92 rfl rfl rfl ?_)
      refine a_go (by decide) (v_ireturn d_TS_count_95 rfl rfl ?_)
      exact mm_fiV hk (mm_ifn c1 (mm_ifn c2 (mm_ifn c3 (mm_ifn c4 (mm_ifn c5 (mm_ifn c6 (mm_ifp c7 rfl)))))))
    refine sw_c (w := (7 : Int32)) (t := 96) (by decide) (by decide) (fun c8 => ?_) (fun c8 => ?_)
    · skip
      refine a_go (by decide) (v_aload_n d_TS_count_96 rfl ?_)
      refine a_go (by decide) (v_getI d_TS_count_97 rfl rfl rfl ?_)
      refine a_go (by decide) (v_ireturn d_TS_count_100 rfl rfl ?_)
      exact mm_fiV hk (mm_ifn c1 (mm_ifn c2 (mm_ifn c3 (mm_ifn c4 (mm_ifn c5 (mm_ifn c6 (mm_ifn c7 (mm_ifp c8 rfl))))))))
    refine sw_c (w := (8 : Int32)) (t := 101) (by decide) (by decide) (fun c9 => ?_) (fun c9 => ?_)
    · skip
      refine a_go (by decide) (v_aload_n d_TS_count_101 rfl ?_)
      refine a_go (by decide) (v_getI d_TS_count_102 rfl rfl rfl ?_)
      refine a_go (by decide) (v_ireturn d_TS_count_105 rfl rfl ?_)
      exact mm_fiV hk (mm_ifn c1 (mm_ifn c2 (mm_ifn c3 (mm_ifn c4 (mm_ifn c5 (mm_ifn c6 (mm_ifn c7 (mm_ifn c8 (mm_ifp c9 rfl)))))))))
    refine sw_n (t := 106) (by decide) ?_
    refine a_go (by decide) (v_bipush d_TS_count_106 kb_m102 ?_)
    refine a_go (by decide) (v_ireturn d_TS_count_108 rfl rfl ?_)
    exact mm_fiV hk (mm_ifn c1 (mm_ifn c2 (mm_ifn c3 (mm_ifn c4 (mm_ifn c5 (mm_ifn c6 (mm_ifn c7 (mm_ifn c8 (mm_ifn c9 rfl)))))))))
  · intro as x K _ k pc lv x' h
    cases h
