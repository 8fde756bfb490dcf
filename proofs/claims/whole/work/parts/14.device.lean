-- TwoSlots.keyNumber(I)J
def e_keyNumber (v0 : Int32) (x : mm_S) : Int64 :=
  (x.2.1 0) ^^^ ((Int32.toInt64 v0) * (1099511628211 : Int64))
def S_keyNumber : mm_P := fun as x K => ∃ (v0 : Int32), as = [.ref 0, .int v0] ∧ K (some (.long (e_keyNumber v0 x))) x
theorem i_keyNumber {v0 : Int32} {x : mm_S} {K : mm_K} (hk : K (some (.long (e_keyNumber v0 x))) x) : S_keyNumber [.ref 0, .int v0] x K := ⟨_, rfl, hk⟩
def G_keyNumber : mm_G := (FT_TS, CI_TS, CJ_TS, mm_tb [], mm_tb [], none)
def rm_keyNumber : Room := { frames := 0, cells := 0, slots := 0, locals := 0 }
set_option maxRecDepth 10000 in
theorem c_keyNumber (l : Launch) : mm_Con l NW CL TB LC y_TS_keyNumber b_TS_keyNumber 2 (some .long) rm_keyNumber S_keyNumber := by
  refine mm_con G_keyNumber [] (fun _ _ _ _ _ _ _ => False) (by decide +kernel) tb_good LC_u nw_nest ?_ rfl ft_TS ci_TS cj_TS ?_ ?_ ?_ ?_
  · rintro as x K ⟨v0, rfl, -⟩
    exact Nat.le_of_ble_eq_true rfl
  · exact mm_tb_e (fun _ h => absurd h List.not_mem_nil)
  · exact mm_tb_e (fun _ h => absurd h List.not_mem_nil)
  · rintro as x K ⟨v0, rfl, hk⟩
    refine ⟨400, ?_⟩
    refine v_aload_n d_TS_keyNumber_0 rfl ?_
    refine a_go (by decide) (v_getL d_TS_keyNumber_1 rfl rfl rfl ?_)
    refine a_go (by decide) (v_iload_n d_TS_keyNumber_4 rfl ?_)
    refine a_go (by decide) (v_i2l d_TS_keyNumber_5 ?_)
    refine a_go (by decide) (v_ldc2 d_TS_keyNumber_6 rfl ?_)
    refine a_go (by decide) (v_lmul d_TS_keyNumber_9 ?_)
    refine a_go (by decide) (v_lxor d_TS_keyNumber_10 ?_)
    refine a_go (by decide) (v_lreturn d_TS_keyNumber_11 rfl ?_)
    exact mm_fiVl hk rfl
  · intro as x K _ k pc lv x' h
    cases h
-- TwoSlots.isBelowCounter(I)Z
def e_isBelow (v0 : Int32) (x : mm_S) : Int32 :=
  if (0 : Int32) ≤ (e_ucompare v0 (x.1 27) x) then
    (0 : Int32)
  else
    (1 : Int32)
def S_isBelow : mm_P := fun as x K => ∃ (v0 : Int32), as = [.ref 0, .int v0] ∧ K (some (.int (e_isBelow v0 x))) x
theorem i_isBelow {v0 : Int32} {x : mm_S} {K : mm_K} (hk : K (some (.int (e_isBelow v0 x))) x) : S_isBelow [.ref 0, .int v0] x K := ⟨_, rfl, hk⟩
def G_isBelow : mm_G := (FT_TS, CI_TS, CJ_TS, mm_tb [(264, 2, S_ucompare)], mm_tb [], none)
def rm_isBelow : Room := { frames := 2, cells := 0, slots := 0, locals := 42 }
set_option maxRecDepth 10000 in
theorem c_isBelow (l : Launch) : mm_Con l NW CL TB LC y_TS_isBelowCounter b_TS_isBelowCounter 2 (some .boolean) rm_isBelow S_isBelow := by
  refine mm_con G_isBelow [] (fun _ _ _ _ _ _ _ => False) (by decide +kernel) tb_good LC_u nw_nest ?_ rfl ft_TS ci_TS cj_TS ?_ ?_ ?_ ?_
  · rintro as x K ⟨v0, rfl, -⟩
    exact Nat.le_of_ble_eq_true rfl
  · exact mm_tb_e (List.forall_mem_cons.mpr ⟨mm_cst_i (c_ucompare LC LC_u LC_n l) (mm_cb_i rfl rfl (by decide) (by decide) tc_JI_compareUnsigned ti_JI ⟨by decide, by decide, by decide +kernel⟩ (Or.inl tl_TS_264)) ts_JI_compareUnsigned, fun _ h => absurd h List.not_mem_nil⟩)
  · exact mm_tb_e (fun _ h => absurd h List.not_mem_nil)
  · rintro as x K ⟨v0, rfl, hk⟩
    refine ⟨400, ?_⟩
    refine v_iload_n d_TS_isBelowCounter_0 rfl ?_
    refine a_go (by decide) (v_aload_n d_TS_isBelowCounter_1 rfl ?_)
    refine a_go (by decide) (v_getR d_TS_isBelowCounter_2 rfl rfl rfl ?_)
    refine a_go (by decide) (v_getI d_TS_isBelowCounter_5 rfl rfl rfl ?_)
    refine a_go (by decide) (v_callS d_TS_isBelowCounter_8 rfl (mm_spl 2 rfl) rfl (Nat.le_of_ble_eq_true rfl) ?_)
    refine (i_ucompare ?_)
    refine a_go (by decide) (v_if_ge d_TS_isBelowCounter_11 (t := 18) (by decide) (fun c1 => ?_) (fun c1 => ?_))
    · skip
      refine a_go (by decide) (v_iconst d_TS_isBelowCounter_18 ki_0 ?_)
      refine a_go (by decide) (v_zreturn d_TS_isBelowCounter_19 rfl (by decide) ?_)
      exact mm_fiV hk (mm_ifp c1 rfl)
    · skip
      refine a_go (by decide) (v_iconst d_TS_isBelowCounter_14 ki_1 ?_)
      refine a_go (by decide) (v_goto d_TS_isBelowCounter_15 (t := 19) (by decide) ?_)
      refine a_go (by decide) (v_zreturn d_TS_isBelowCounter_19 rfl (by decide) ?_)
      exact mm_fiV hk (mm_ifn c1 rfl)
  · intro as x K _ k pc lv x' h
    cases h
-- TwoSlots.isRevoked(I)Z
def e_isRevoked (v0 : Int32) (x : mm_S) : Int32 :=
  if (((x.1 26) >>> (v0 &&& 31)) &&& (1 : Int32)) = (1 : Int32) then
    (1 : Int32)
  else
    (0 : Int32)
def S_isRevoked : mm_P := fun as x K => ∃ (v0 : Int32), as = [.ref 0, .int v0] ∧ K (some (.int (e_isRevoked v0 x))) x
theorem i_isRevoked {v0 : Int32} {x : mm_S} {K : mm_K} (hk : K (some (.int (e_isRevoked v0 x))) x) : S_isRevoked [.ref 0, .int v0] x K := ⟨_, rfl, hk⟩
def G_isRevoked : mm_G := (FT_TS, CI_TS, CJ_TS, mm_tb [], mm_tb [], none)
def rm_isRevoked : Room := { frames := 0, cells := 0, slots := 0, locals := 0 }
set_option maxRecDepth 10000 in
theorem c_isRevoked (l : Launch) : mm_Con l NW CL TB LC y_TS_isRevoked b_TS_isRevoked 2 (some .boolean) rm_isRevoked S_isRevoked := by
  refine mm_con G_isRevoked [] (fun _ _ _ _ _ _ _ => False) (by decide +kernel) tb_good LC_u nw_nest ?_ rfl ft_TS ci_TS cj_TS ?_ ?_ ?_ ?_
  · rintro as x K ⟨v0, rfl, -⟩
    exact Nat.le_of_ble_eq_true rfl
  · exact mm_tb_e (fun _ h => absurd h List.not_mem_nil)
  · exact mm_tb_e (fun _ h => absurd h List.not_mem_nil)
  · rintro as x K ⟨v0, rfl, hk⟩
    refine ⟨400, ?_⟩
    refine v_aload_n d_TS_isRevoked_0 rfl ?_
    refine a_go (by decide) (v_getR d_TS_isRevoked_1 rfl rfl rfl ?_)
    refine a_go (by decide) (v_getI d_TS_isRevoked_4 rfl rfl rfl ?_)
    refine a_go (by decide) (v_iload_n d_TS_isRevoked_7 rfl ?_)
    refine a_go (by decide) (v_ishr d_TS_isRevoked_8 ?_)
    refine a_go (by decide) (v_iconst d_TS_isRevoked_9 ki_1 ?_)
    refine a_go (by decide) (v_iand d_TS_isRevoked_10 ?_)
    refine a_go (by decide) (v_iconst d_TS_isRevoked_11 ki_1 ?_)
    refine a_go (by decide) (v_icmp_ne d_TS_isRevoked_12 (t := 19) (by decide) (fun c1 => ?_) (fun c1 => ?_))
    · skip
      refine a_go (by decide) (v_iconst d_TS_isRevoked_19 ki_0 ?_)
      refine a_go (by decide) (v_zreturn d_TS_isRevoked_20 rfl (by decide) ?_)
      exact mm_fiV hk (mm_ifn c1 rfl)
    · skip
      refine a_go (by decide) (v_iconst d_TS_isRevoked_15 ki_1 ?_)
      refine a_go (by decide) (v_goto d_TS_isRevoked_16 (t := 20) (by decide) ?_)
      refine a_go (by decide) (v_zreturn d_TS_isRevoked_20 rfl (by decide) ?_)
      exact mm_fiV hk (mm_ifp c1 rfl)
  · intro as x K _ k pc lv x' h
    cases h
-- TwoSlots.isSheetRight()Z
def e_isRight (x : mm_S) : Int32 :=
  if (e_hs_form x) = (0 : Int32) then
    (0 : Int32)
  else
    if (e_hs_sealed (e_keyNumber (e_hs_key x) x) x) = (0 : Int32) then
      (0 : Int32)
    else
      if (e_isRevoked (e_hs_key x) x) = (0 : Int32) then
        (1 : Int32)
      else
        (0 : Int32)
def S_isRight : mm_P := fun as x K => as = [.ref 0] ∧ K (some (.int (e_isRight x))) x
theorem i_isRight {x : mm_S} {K : mm_K} (hk : K (some (.int (e_isRight x))) x) : S_isRight [.ref 0] x K := ⟨rfl, hk⟩
def G_isRight : mm_G := (FT_TS, CI_TS, CJ_TS, mm_tb [], mm_tb [(257, 1, 4, S_hs_form), (207, 1, 4, S_hs_key), (99, 2, 0, S_keyNumber), (260, 2, 4, S_hs_sealed), (209, 2, 0, S_isRevoked)], none)
def rm_isRight : Room := { frames := 3, cells := 0, slots := 0, locals := 72 }
set_option maxRecDepth 10000 in
theorem c_isRight (l : Launch) : mm_Con l NW CL TB LC y_TS_isSheetRight b_TS_isSheetRight 1 (some .boolean) rm_isRight S_isRight := by
  refine mm_con G_isRight [] (fun _ _ _ _ _ _ _ => False) (by decide +kernel) tb_good LC_u nw_nest ?_ rfl ft_TS ci_TS cj_TS ?_ ?_ ?_ ?_
  · rintro as x K ⟨rfl, -⟩
    exact Nat.le_of_ble_eq_true rfl
  · exact mm_tb_e (fun _ h => absurd h List.not_mem_nil)
  · exact mm_tb_e (List.forall_mem_cons.mpr ⟨mm_cvt_i (c_hs_form l) (mm_cb_i rfl rfl (by decide) (by decide) tc_HD_hasForm ti_HD ⟨by decide, by decide, by decide +kernel⟩ (Or.inl tl_TS_257)) rfl tv_HD_hasForm tx_HD_hasForm, List.forall_mem_cons.mpr ⟨mm_cvt_i (c_hs_key l) (mm_cb_i rfl rfl (by decide) (by decide) tc_HD_key ti_HD ⟨by decide, by decide, by decide +kernel⟩ (Or.inl tl_TS_207)) rfl tv_HD_key tx_HD_key, List.forall_mem_cons.mpr ⟨mm_cvt_i (c_keyNumber l) (mm_cb_i rfl rfl (by decide) (by decide) tc_TS_keyNumber ti_TS ⟨by decide, by decide, by decide +kernel⟩ (Or.inl tl_TS_99)) rfl tv_TS_keyNumber tx_TS_keyNumber, List.forall_mem_cons.mpr ⟨mm_cvt_i (c_hs_sealed l) (mm_cb_i rfl rfl (by decide) (by decide) tc_HD_isSealedWith ti_HD ⟨by decide, by decide, by decide +kernel⟩ (Or.inl tl_TS_260)) rfl tv_HD_isSealedWith tx_HD_isSealedWith, List.forall_mem_cons.mpr ⟨mm_cvt_i (c_isRevoked l) (mm_cb_i rfl rfl (by decide) (by decide) tc_TS_isRevoked ti_TS ⟨by decide, by decide, by decide +kernel⟩ (Or.inl tl_TS_209)) rfl tv_TS_isRevoked tx_TS_isRevoked, fun _ h => absurd h List.not_mem_nil⟩⟩⟩⟩⟩)
  · rintro as x K ⟨rfl, hk⟩
    refine ⟨400, ?_⟩
    refine v_aload_n d_TS_isSheetRight_0 rfl ?_
    refine a_go (by decide) (v_getR d_TS_isSheetRight_1 rfl rfl rfl ?_)
    refine a_go (by decide) (v_callV d_TS_isSheetRight_4 rfl (mm_spl 1 rfl) rfl (Nat.le_of_ble_eq_true rfl) rfl ?_)
    refine (i_hs_form ?_)
    refine a_go (by decide) (v_if_eq d_TS_isSheetRight_7 (t := 49) (by decide) (fun c1 => ?_) (fun c1 => ?_))
    · skip
      refine a_go (by decide) (v_iconst d_TS_isSheetRight_49 ki_0 ?_)
      refine a_go (by decide) (v_zreturn d_TS_isSheetRight_50 rfl (by decide) ?_)
      exact mm_fiV hk (mm_ifp c1 rfl)
    · skip
      refine a_go (by decide) (v_aload_n d_TS_isSheetRight_10 rfl ?_)
      refine a_go (by decide) (v_getR d_TS_isSheetRight_11 rfl rfl rfl ?_)
      refine a_go (by decide) (v_aload_n d_TS_isSheetRight_14 rfl ?_)
      refine a_go (by decide) (v_aload_n d_TS_isSheetRight_15 rfl ?_)
      refine a_go (by decide) (v_getR d_TS_isSheetRight_16 rfl rfl rfl ?_)
      refine a_go (by decide) (v_callV d_TS_isSheetRight_19 rfl (mm_spl 1 rfl) rfl (Nat.le_of_ble_eq_true rfl) rfl ?_)
      refine (i_hs_key ?_)
      refine a_go (by decide) (v_callV d_TS_isSheetRight_22 rfl (mm_spl 2 rfl) rfl (Nat.le_of_ble_eq_true rfl) rfl ?_)
      refine (i_keyNumber ?_)
      refine a_go (by decide) (v_callV d_TS_isSheetRight_25 rfl (mm_spl 2 rfl) rfl (Nat.le_of_ble_eq_true rfl) rfl ?_)
      refine (i_hs_sealed ?_)
      refine a_go (by decide) (v_if_eq d_TS_isSheetRight_28 (t := 49) (by decide) (fun c2 => ?_) (fun c2 => ?_))
      · skip
        refine a_go (by decide) (v_iconst d_TS_isSheetRight_49 ki_0 ?_)
        refine a_go (by decide) (v_zreturn d_TS_isSheetRight_50 rfl (by decide) ?_)
        exact mm_fiV hk (mm_ifn c1 (mm_ifp c2 rfl))
      · skip
        refine a_go (by decide) (v_aload_n d_TS_isSheetRight_31 rfl ?_)
        refine a_go (by decide) (v_aload_n d_TS_isSheetRight_32 rfl ?_)
        refine a_go (by decide) (v_getR d_TS_isSheetRight_33 rfl rfl rfl ?_)
        refine a_go (by decide) (v_callV d_TS_isSheetRight_36 rfl (mm_spl 1 rfl) rfl (Nat.le_of_ble_eq_true rfl) rfl ?_)
        refine (i_hs_key ?_)
        refine a_go (by decide) (v_callV d_TS_isSheetRight_39 rfl (mm_spl 2 rfl) rfl (Nat.le_of_ble_eq_true rfl) rfl ?_)
        refine (i_isRevoked ?_)
        refine a_go (by decide) (v_if_ne d_TS_isSheetRight_42 (t := 49) (by decide) (fun c3 => ?_) (fun c3 => ?_))
        · skip
          refine a_go (by decide) (v_iconst d_TS_isSheetRight_49 ki_0 ?_)
          refine a_go (by decide) (v_zreturn d_TS_isSheetRight_50 rfl (by decide) ?_)
          exact mm_fiV hk (mm_ifn c1 (mm_ifn c2 (mm_ifn c3 rfl)))
        · skip
          refine a_go (by decide) (v_iconst d_TS_isSheetRight_45 ki_1 ?_)
          refine a_go (by decide) (v_goto d_TS_isSheetRight_46 (t := 50) (by decide) ?_)
          refine a_go (by decide) (v_zreturn d_TS_isSheetRight_50 rfl (by decide) ?_)
          exact mm_fiV hk (mm_ifn c1 (mm_ifn c2 (mm_ifp c3 rfl)))
  · intro as x K _ k pc lv x' h
    cases h
-- TwoSlots.readHeader(I)V
def e_readHeader (v0 : Int32) (x : mm_S) : mm_S :=
  let x1 := e_copySector 4096 1 ((e_hsec v0 x) * (64 : Int32)) 64 3 (0 : Int32) x
  x1
def S_readHeader : mm_P := fun as x K => ∃ (v0 : Int32), as = [.ref 0, .int v0] ∧ K none (e_readHeader v0 x)
theorem i_readHeader {v0 : Int32} {x : mm_S} {K : mm_K} (hk : K none (e_readHeader v0 x)) : S_readHeader [.ref 0, .int v0] x K := ⟨_, rfl, hk⟩
def G_readHeader : mm_G := (FT_TS, CI_TS, CJ_TS, mm_tb [(110, 1, S_hsec), (113, 4, S_copySector)], mm_tb [], none)
def rm_readHeader : Room := { frames := 2, cells := 0, slots := 0, locals := 46 }
set_option maxRecDepth 10000 in
theorem c_readHeader (l : Launch) : mm_Con l NW CL TB LC y_TS_readHeader b_TS_readHeader 2 (none) rm_readHeader S_readHeader := by
  refine mm_con G_readHeader [] (fun _ _ _ _ _ _ _ => False) (by decide +kernel) tb_good LC_u nw_nest ?_ rfl ft_TS ci_TS cj_TS ?_ ?_ ?_ ?_
  · rintro as x K ⟨v0, rfl, -⟩
    exact Nat.le_of_ble_eq_true rfl
  · exact mm_tb_e (List.forall_mem_cons.mpr ⟨mm_cst_i (c_hsec l) (mm_cb_i rfl rfl (by decide) (by decide) tc_TS_headerSector ti_TS ⟨by decide, by decide, by decide +kernel⟩ (Or.inl tl_TS_110)) ts_TS_headerSector, List.forall_mem_cons.mpr ⟨mm_cst_i (c_copySector l) (mm_cb_i rfl rfl (by decide) (by decide) tc_TS_copySector ti_TS ⟨by decide, by decide, by decide +kernel⟩ (Or.inl tl_TS_113)) ts_TS_copySector, fun _ h => absurd h List.not_mem_nil⟩⟩)
  · exact mm_tb_e (fun _ h => absurd h List.not_mem_nil)
  · rintro as x K ⟨v0, rfl, hk⟩
    refine ⟨400, ?_⟩
    refine v_aload_n d_TS_readHeader_0 rfl ?_
    refine a_go (by decide) (v_getR d_TS_readHeader_1 rfl rfl rfl ?_)
    refine a_go (by decide) (v_getR d_TS_readHeader_4 rfl rfl rfl ?_)
    refine a_go (by decide) (v_iload_n d_TS_readHeader_7 rfl ?_)
    refine a_go (by decide) (v_callS d_TS_readHeader_8 rfl (mm_spl 1 rfl) rfl (Nat.le_of_ble_eq_true rfl) ?_)
    refine (i_hsec ?_)
    refine a_go (by decide) (v_bipush d_TS_readHeader_11 kb_64 ?_)
    refine a_go (by decide) (v_imul d_TS_readHeader_13 ?_)
    refine a_go (by decide) (v_aload_n d_TS_readHeader_14 rfl ?_)
    refine a_go (by decide) (v_getR d_TS_readHeader_15 rfl rfl rfl ?_)
    refine a_go (by decide) (v_getR d_TS_readHeader_18 rfl rfl rfl ?_)
    refine a_go (by decide) (v_iconst d_TS_readHeader_21 ki_0 ?_)
    refine a_go (by decide) (v_callS d_TS_readHeader_22 rfl (mm_spl 4 rfl) rfl (Nat.le_of_ble_eq_true rfl) ?_)
    refine (i_copySector rfl rfl ?_)
    refine a_go (by decide) (v_return d_TS_readHeader_25 rfl ?_)
    exact mm_fiS hk rfl
  · intro as x K _ k pc lv x' h
    cases h
theorem e_readHeader_1 (v : Int32) (x : mm_S) : (e_readHeader v x).1 = x.1 := by
  simp only [e_readHeader, e_copySector_1]
theorem J_readHeader {v : Int32} {x : mm_S} (h : mm_J x) : mm_J (e_readHeader v x) := mm_Jc (congrFun (e_readHeader_1 v x) 21) h
-- TwoSlots.bodyDigest(III)J
def e_bdigest (v0 : Int32) (v1 : Int32) (v2 : Int32) (x : mm_S) : Int64 :=
  let y1 := e_bstart v0 x
  e_digest (e_wos v1 x) 4096 1 y1 (y1 + (v2 * (64 : Int32))) x
def S_bdigest : mm_P := fun as x K => ∃ (v0 : Int32) (v1 : Int32) (v2 : Int32), as = [.ref 0, .int v0, .int v1, .int v2] ∧ K (some (.long (e_bdigest v0 v1 v2 x))) x
theorem i_bdigest {v0 : Int32} {v1 : Int32} {v2 : Int32} {x : mm_S} {K : mm_K} (hk : K (some (.long (e_bdigest v0 v1 v2 x))) x) : S_bdigest [.ref 0, .int v0, .int v1, .int v2] x K := ⟨_, _, _, rfl, hk⟩
def G_bdigest : mm_G := (FT_TS, CI_TS, CJ_TS, mm_tb [(84, 1, S_bstart), (271, 1, S_wos), (274, 4, S_digest)], mm_tb [], none)
def rm_bdigest : Room := { frames := 2, cells := 0, slots := 0, locals := 50 }
set_option maxRecDepth 10000 in
theorem c_bdigest (l : Launch) : mm_Con l NW CL TB LC y_TS_bodyDigest b_TS_bodyDigest 5 (some .long) rm_bdigest S_bdigest := by
  refine mm_con G_bdigest [] (fun _ _ _ _ _ _ _ => False) (by decide +kernel) tb_good LC_u nw_nest ?_ rfl ft_TS ci_TS cj_TS ?_ ?_ ?_ ?_
  · rintro as x K ⟨v0, v1, v2, rfl, -⟩
    exact Nat.le_of_ble_eq_true rfl
  · exact mm_tb_e (List.forall_mem_cons.mpr ⟨mm_cst_i (c_bstart l) (mm_cb_i rfl rfl (by decide) (by decide) tc_TS_bodyStart ti_TS ⟨by decide, by decide, by decide +kernel⟩ (Or.inl tl_TS_84)) ts_TS_bodyStart, List.forall_mem_cons.mpr ⟨mm_cst_i (c_wos l) (mm_cb_i rfl rfl (by decide) (by decide) tc_TS_withoutSign ti_TS ⟨by decide, by decide, by decide +kernel⟩ (Or.inl tl_TS_271)) ts_TS_withoutSign, List.forall_mem_cons.mpr ⟨mm_cst_i (c_digest l) (mm_cb_i rfl rfl (by decide) (by decide) tc_TS_digest ti_TS ⟨by decide, by decide, by decide +kernel⟩ (Or.inl tl_TS_274)) ts_TS_digest, fun _ h => absurd h List.not_mem_nil⟩⟩⟩)
  · exact mm_tb_e (fun _ h => absurd h List.not_mem_nil)
  · rintro as x K ⟨v0, v1, v2, rfl, hk⟩
    refine ⟨400, ?_⟩
    refine v_iload_n d_TS_bodyDigest_0 rfl ?_
    refine a_go (by decide) (v_callS d_TS_bodyDigest_1 rfl (mm_spl 1 rfl) rfl (Nat.le_of_ble_eq_true rfl) ?_)
    refine (i_bstart ?_)
    refine a_go (by decide) (v_istore d_TS_bodyDigest_4 (by decide) ?_)
    refine a_go (by decide) (v_iload_n d_TS_bodyDigest_6 rfl ?_)
    refine a_go (by decide) (v_callS d_TS_bodyDigest_7 rfl (mm_spl 1 rfl) rfl (Nat.le_of_ble_eq_true rfl) ?_)
    refine (i_wos ?_)
    refine a_go (by decide) (v_aload_n d_TS_bodyDigest_10 rfl ?_)
    refine a_go (by decide) (v_getR d_TS_bodyDigest_11 rfl rfl rfl ?_)
    refine a_go (by decide) (v_getR d_TS_bodyDigest_14 rfl rfl rfl ?_)
    refine a_go (by decide) (v_iload d_TS_bodyDigest_17 rfl ?_)
    refine a_go (by decide) (v_iload d_TS_bodyDigest_19 rfl ?_)
    refine a_go (by decide) (v_iload_n d_TS_bodyDigest_21 rfl ?_)
    refine a_go (by decide) (v_bipush d_TS_bodyDigest_22 kb_64 ?_)
    refine a_go (by decide) (v_imul d_TS_bodyDigest_24 ?_)
    refine a_go (by decide) (v_iadd d_TS_bodyDigest_25 ?_)
    refine a_go (by decide) (v_callS d_TS_bodyDigest_26 rfl (mm_spl 4 rfl) rfl (Nat.le_of_ble_eq_true rfl) ?_)
    refine (i_digest rfl ?_)
    refine a_go (by decide) (v_lreturn d_TS_bodyDigest_29 rfl ?_)
    exact mm_fiVl hk rfl
  · intro as x K _ k pc lv x' h
    cases h
-- TwoSlots.isGood(I)Z
def e_isGood (v0 : Int32) (x : mm_S) : Int32 × mm_S :=
  let x1 := e_readHeader v0 x
  if (e_isRight x1) = (0 : Int32) then
    ((0 : Int32), x1)
  else
    if (e_isBelow (e_hs_version x1) x1) = (0 : Int32) then
      if (lg_cmp (e_bdigest v0 (e_hs_version x1) (e_hs_size x1) x1) (e_hs_bdigest x1)) = (0 : Int32) then
        ((1 : Int32), x1)
      else
        ((0 : Int32), x1)
    else
      ((0 : Int32), x1)
def S_isGood : mm_P := fun as x K => ∃ (v0 : Int32), as = [.ref 0, .int v0] ∧ K (some (.int (e_isGood v0 x).1)) (e_isGood v0 x).2
theorem i_isGood {v0 : Int32} {x : mm_S} {K : mm_K} (hk : K (some (.int (e_isGood v0 x).1)) (e_isGood v0 x).2) : S_isGood [.ref 0, .int v0] x K := ⟨_, rfl, hk⟩
def G_isGood : mm_G := (FT_TS, CI_TS, CJ_TS, mm_tb [], mm_tb [(195, 2, 0, S_readHeader), (154, 1, 0, S_isRight), (157, 1, 4, S_hs_version), (160, 2, 0, S_isBelow), (176, 1, 4, S_hs_size), (95, 4, 0, S_bdigest), (182, 1, 4, S_hs_bdigest)], none)
def rm_isGood : Room := { frames := 4, cells := 0, slots := 0, locals := 92 }
set_option maxRecDepth 10000 in
theorem c_isGood (l : Launch) : mm_Con l NW CL TB LC y_TS_isGood b_TS_isGood 2 (some .boolean) rm_isGood S_isGood := by
  refine mm_con G_isGood [] (fun _ _ _ _ _ _ _ => False) (by decide +kernel) tb_good LC_u nw_nest ?_ rfl ft_TS ci_TS cj_TS ?_ ?_ ?_ ?_
  · rintro as x K ⟨v0, rfl, -⟩
    exact Nat.le_of_ble_eq_true rfl
  · exact mm_tb_e (fun _ h => absurd h List.not_mem_nil)
  · exact mm_tb_e (List.forall_mem_cons.mpr ⟨mm_cvt_i (c_readHeader l) (mm_cb_i rfl rfl (by decide) (by decide) tc_TS_readHeader ti_TS ⟨by decide, by decide, by decide +kernel⟩ (Or.inl tl_TS_195)) rfl tv_TS_readHeader tx_TS_readHeader, List.forall_mem_cons.mpr ⟨mm_cvt_i (c_isRight l) (mm_cb_i rfl rfl (by decide) (by decide) tc_TS_isSheetRight ti_TS ⟨by decide, by decide, by decide +kernel⟩ (Or.inl tl_TS_154)) rfl tv_TS_isSheetRight tx_TS_isSheetRight, List.forall_mem_cons.mpr ⟨mm_cvt_i (c_hs_version l) (mm_cb_i rfl rfl (by decide) (by decide) tc_HD_version ti_HD ⟨by decide, by decide, by decide +kernel⟩ (Or.inl tl_TS_157)) rfl tv_HD_version tx_HD_version, List.forall_mem_cons.mpr ⟨mm_cvt_i (c_isBelow l) (mm_cb_i rfl rfl (by decide) (by decide) tc_TS_isBelowCounter ti_TS ⟨by decide, by decide, by decide +kernel⟩ (Or.inl tl_TS_160)) rfl tv_TS_isBelowCounter tx_TS_isBelowCounter, List.forall_mem_cons.mpr ⟨mm_cvt_i (c_hs_size l) (mm_cb_i rfl rfl (by decide) (by decide) tc_HD_size ti_HD ⟨by decide, by decide, by decide +kernel⟩ (Or.inl tl_TS_176)) rfl tv_HD_size tx_HD_size, List.forall_mem_cons.mpr ⟨mm_cvt_i (c_bdigest l) (mm_cb_i rfl rfl (by decide) (by decide) tc_TS_bodyDigest ti_TS ⟨by decide, by decide, by decide +kernel⟩ (Or.inl tl_TS_95)) rfl tv_TS_bodyDigest tx_TS_bodyDigest, List.forall_mem_cons.mpr ⟨mm_cvt_i (c_hs_bdigest l) (mm_cb_i rfl rfl (by decide) (by decide) tc_HD_bodyDigest ti_HD ⟨by decide, by decide, by decide +kernel⟩ (Or.inl tl_TS_182)) rfl tv_HD_bodyDigest tx_HD_bodyDigest, fun _ h => absurd h List.not_mem_nil⟩⟩⟩⟩⟩⟩⟩)
  · rintro as x K ⟨v0, rfl, hk⟩
    refine ⟨400, ?_⟩
    refine v_aload_n d_TS_isGood_0 rfl ?_
    refine a_go (by decide) (v_iload_n d_TS_isGood_1 rfl ?_)
    refine a_go (by decide) (v_callV d_TS_isGood_2 rfl (mm_spl 2 rfl) rfl (Nat.le_of_ble_eq_true rfl) rfl ?_)
    refine (i_readHeader ?_)
    refine a_go (by decide) (v_aload_n d_TS_isGood_5 rfl ?_)
    refine a_go (by decide) (v_callV d_TS_isGood_6 rfl (mm_spl 1 rfl) rfl (Nat.le_of_ble_eq_true rfl) rfl ?_)
    refine (i_isRight ?_)
    refine a_go (by decide) (v_if_eq d_TS_isGood_9 (t := 26) (by decide) (fun c1 => ?_) (fun c1 => ?_))
    · skip
      refine a_go (by decide) (v_iconst d_TS_isGood_26 ki_0 ?_)
      refine a_go (by decide) (v_zreturn d_TS_isGood_27 rfl (by decide) ?_)
      exact mm_fiVS hk (mm_ifp c1 rfl)
    · skip
      refine a_go (by decide) (v_aload_n d_TS_isGood_12 rfl ?_)
      refine a_go (by decide) (v_aload_n d_TS_isGood_13 rfl ?_)
      refine a_go (by decide) (v_getR d_TS_isGood_14 rfl rfl rfl ?_)
      refine a_go (by decide) (v_callV d_TS_isGood_17 rfl (mm_spl 1 rfl) rfl (Nat.le_of_ble_eq_true rfl) rfl ?_)
      refine (i_hs_version ?_)
      refine a_go (by decide) (v_callV d_TS_isGood_20 rfl (mm_spl 2 rfl) rfl (Nat.le_of_ble_eq_true rfl) rfl ?_)
      refine (i_isBelow ?_)
      refine a_go (by decide) (v_if_eq d_TS_isGood_23 (t := 28) (by decide) (fun c2 => ?_) (fun c2 => ?_))
      · skip
        refine a_go (by decide) (v_aload_n d_TS_isGood_28 rfl ?_)
        refine a_go (by decide) (v_iload_n d_TS_isGood_29 rfl ?_)
        refine a_go (by decide) (v_aload_n d_TS_isGood_30 rfl ?_)
        refine a_go (by decide) (v_getR d_TS_isGood_31 rfl rfl rfl ?_)
        refine a_go (by decide) (v_callV d_TS_isGood_34 rfl (mm_spl 1 rfl) rfl (Nat.le_of_ble_eq_true rfl) rfl ?_)
        refine (i_hs_version ?_)
        refine a_go (by decide) (v_aload_n d_TS_isGood_37 rfl ?_)
        refine a_go (by decide) (v_getR d_TS_isGood_38 rfl rfl rfl ?_)
        refine a_go (by decide) (v_callV d_TS_isGood_41 rfl (mm_spl 1 rfl) rfl (Nat.le_of_ble_eq_true rfl) rfl ?_)
        refine (i_hs_size ?_)
        refine a_go (by decide) (v_callV d_TS_isGood_44 rfl (mm_spl 4 rfl) rfl (Nat.le_of_ble_eq_true rfl) rfl ?_)
        refine (i_bdigest ?_)
        refine a_go (by decide) (v_aload_n d_TS_isGood_47 rfl ?_)
        refine a_go (by decide) (v_getR d_TS_isGood_48 rfl rfl rfl ?_)
        refine a_go (by decide) (v_callV d_TS_isGood_51 rfl (mm_spl 1 rfl) rfl (Nat.le_of_ble_eq_true rfl) rfl ?_)
        refine (i_hs_bdigest ?_)
        refine a_go (by decide) (v_lcmp d_TS_isGood_54 ?_)
        refine a_go (by decide) (v_if_ne d_TS_isGood_55 (t := 62) (by decide) (fun c3 => ?_) (fun c3 => ?_))
        · skip
          refine a_go (by decide) (v_iconst d_TS_isGood_62 ki_0 ?_)
          refine a_go (by decide) (v_zreturn d_TS_isGood_63 rfl (by decide) ?_)
          exact mm_fiVS hk (mm_ifn c1 (mm_ifp c2 (mm_ifn c3 rfl)))
        · skip
          refine a_go (by decide) (v_iconst d_TS_isGood_58 ki_1 ?_)
          refine a_go (by decide) (v_goto d_TS_isGood_59 (t := 63) (by decide) ?_)
          refine a_go (by decide) (v_zreturn d_TS_isGood_63 rfl (by decide) ?_)
          exact mm_fiVS hk (mm_ifn c1 (mm_ifp c2 (mm_ifp c3 rfl)))
      · skip
        refine a_go (by decide) (v_iconst d_TS_isGood_26 ki_0 ?_)
        refine a_go (by decide) (v_zreturn d_TS_isGood_27 rfl (by decide) ?_)
        exact mm_fiVS hk (mm_ifn c1 (mm_ifn c2 rfl))
  · intro as x K _ k pc lv x' h
    cases h
theorem e_isGood_1 (v : Int32) (x : mm_S) : (e_isGood v x).2.1 = x.1 := by
  simp only [e_isGood]
  repeat' split
  all_goals rw [e_readHeader_1]
theorem J_isGood {v : Int32} {x : mm_S} (h : mm_J x) : mm_J (e_isGood v x).2 := mm_Jc (congrFun (e_isGood_1 v x) 21) h
-- TwoSlots.runsForGood()Z
def e_runsForGood (x : mm_S) : Int32 :=
  if (x.1 3) = (-1 : Int32) then
    (0 : Int32)
  else
    if (x.1 4) = (0 : Int32) then
      (1 : Int32)
    else
      (0 : Int32)
def S_runsForGood : mm_P := fun as x K => as = [.ref 0] ∧ K (some (.int (e_runsForGood x))) x
theorem i_runsForGood {x : mm_S} {K : mm_K} (hk : K (some (.int (e_runsForGood x))) x) : S_runsForGood [.ref 0] x K := ⟨rfl, hk⟩
def G_runsForGood : mm_G := (FT_TS, CI_TS, CJ_TS, mm_tb [], mm_tb [], none)
def rm_runsForGood : Room := { frames := 0, cells := 0, slots := 0, locals := 0 }
set_option maxRecDepth 10000 in
theorem c_runsForGood (l : Launch) : mm_Con l NW CL TB LC y_TS_runsForGood b_TS_runsForGood 1 (some .boolean) rm_runsForGood S_runsForGood := by
  refine mm_con G_runsForGood [] (fun _ _ _ _ _ _ _ => False) (by decide +kernel) tb_good LC_u nw_nest ?_ rfl ft_TS ci_TS cj_TS ?_ ?_ ?_ ?_
  · rintro as x K ⟨rfl, -⟩
    exact Nat.le_of_ble_eq_true rfl
  · exact mm_tb_e (fun _ h => absurd h List.not_mem_nil)
  · exact mm_tb_e (fun _ h => absurd h List.not_mem_nil)
  · rintro as x K ⟨rfl, hk⟩
    refine ⟨400, ?_⟩
    refine v_aload_n d_TS_runsForGood_0 rfl ?_
    refine a_go (by decide) (v_getI d_TS_runsForGood_1 rfl rfl rfl ?_)
    refine a_go (by decide) (v_iconst d_TS_runsForGood_4 ki_m1 ?_)
    refine a_go (by decide) (v_icmp_eq d_TS_runsForGood_5 (t := 19) (by decide) (fun c1 => ?_) (fun c1 => ?_))
    · skip
      refine a_go (by decide) (v_iconst d_TS_runsForGood_19 ki_0 ?_)
      refine a_go (by decide) (v_zreturn d_TS_runsForGood_20 rfl (by decide) ?_)
      exact mm_fiV hk (mm_ifp c1 rfl)
    · skip
      refine a_go (by decide) (v_aload_n d_TS_runsForGood_8 rfl ?_)
      refine a_go (by decide) (v_getI d_TS_runsForGood_9 rfl rfl rfl ?_)
      refine a_go (by decide) (v_if_ne d_TS_runsForGood_12 (t := 19) (by decide) (fun c2 => ?_) (fun c2 => ?_))
      · skip
        refine a_go (by decide) (v_iconst d_TS_runsForGood_19 ki_0 ?_)
        refine a_go (by decide) (v_zreturn d_TS_runsForGood_20 rfl (by decide) ?_)
        exact mm_fiV hk (mm_ifn c1 (mm_ifn c2 rfl))
      · skip
        refine a_go (by decide) (v_iconst d_TS_runsForGood_15 ki_1 ?_)
        refine a_go (by decide) (v_goto d_TS_runsForGood_16 (t := 20) (by decide) ?_)
        refine a_go (by decide) (v_zreturn d_TS_runsForGood_20 rfl (by decide) ?_)
        exact mm_fiV hk (mm_ifn c1 (mm_ifp c2 rfl))
  · intro as x K _ k pc lv x' h
    cases h
-- TwoSlots.dropOffer()V
def e_dropOffer (x : mm_S) : mm_S :=
  let x1 := mm_setI x 1 (-1 : Int32)
  let x2 := mm_setI x1 2 (0 : Int32)
  x2
def S_dropOffer : mm_P := fun as x K => as = [.ref 0] ∧ K none (e_dropOffer x)
theorem i_dropOffer {x : mm_S} {K : mm_K} (hk : K none (e_dropOffer x)) : S_dropOffer [.ref 0] x K := ⟨rfl, hk⟩
def G_dropOffer : mm_G := (FT_TS, CI_TS, CJ_TS, mm_tb [], mm_tb [], none)
def rm_dropOffer : Room := { frames := 0, cells := 0, slots := 0, locals := 0 }
set_option maxRecDepth 10000 in
theorem c_dropOffer (l : Launch) : mm_Con l NW CL TB LC y_TS_dropOffer b_TS_dropOffer 1 (none) rm_dropOffer S_dropOffer := by
  refine mm_con G_dropOffer [] (fun _ _ _ _ _ _ _ => False) (by decide +kernel) tb_good LC_u nw_nest ?_ rfl ft_TS ci_TS cj_TS ?_ ?_ ?_ ?_
  · rintro as x K ⟨rfl, -⟩
    exact Nat.le_of_ble_eq_true rfl
  · exact mm_tb_e (fun _ h => absurd h List.not_mem_nil)
  · exact mm_tb_e (fun _ h => absurd h List.not_mem_nil)
  · rintro as x K ⟨rfl, hk⟩
    refine ⟨400, ?_⟩
    refine v_aload_n d_TS_dropOffer_0 rfl ?_
    refine a_go (by decide) (v_iconst d_TS_dropOffer_1 ki_m1 ?_)
    refine a_go (by decide) (v_putI d_TS_dropOffer_2 rfl rfl rfl ?_)
    refine a_go (by decide) (v_aload_n d_TS_dropOffer_5 rfl ?_)
    refine a_go (by decide) (v_iconst d_TS_dropOffer_6 ki_0 ?_)
    refine a_go (by decide) (v_putI d_TS_dropOffer_7 rfl rfl rfl ?_)
    refine a_go (by decide) (v_return d_TS_dropOffer_10 rfl ?_)
    exact mm_fiS hk rfl
  · intro as x K _ k pc lv x' h
    cases h
theorem J_dropOffer {x : mm_S} (hpre : mm_J x) : mm_J (e_dropOffer x) := (mm_Js (by decide) (mm_Js (by decide) hpre))
-- TwoSlots.lose()I
def e_lose (x : mm_S) : Int32 × mm_S :=
  let x1 := mm_setI x 3 (-1 : Int32)
  let x2 := mm_setI x1 4 (0 : Int32)
  let x3 := mm_setI x2 0 (0 : Int32)
  let x4 := e_dropOffer x3
  ((-106 : Int32), x4)
def S_lose : mm_P := fun as x K => as = [.ref 0] ∧ K (some (.int (e_lose x).1)) (e_lose x).2
theorem i_lose {x : mm_S} {K : mm_K} (hk : K (some (.int (e_lose x).1)) (e_lose x).2) : S_lose [.ref 0] x K := ⟨rfl, hk⟩
def G_lose : mm_G := (FT_TS, CI_TS, CJ_TS, mm_tb [], mm_tb [(185, 1, 0, S_dropOffer)], none)
def rm_lose : Room := { frames := 1, cells := 0, slots := 0, locals := 20 }
set_option maxRecDepth 10000 in
theorem c_lose (l : Launch) : mm_Con l NW CL TB LC y_TS_lose b_TS_lose 1 (some .int) rm_lose S_lose := by
  refine mm_con G_lose [] (fun _ _ _ _ _ _ _ => False) (by decide +kernel) tb_good LC_u nw_nest ?_ rfl ft_TS ci_TS cj_TS ?_ ?_ ?_ ?_
  · rintro as x K ⟨rfl, -⟩
    exact Nat.le_of_ble_eq_true rfl
  · exact mm_tb_e (fun _ h => absurd h List.not_mem_nil)
  · exact mm_tb_e (List.forall_mem_cons.mpr ⟨mm_cvt_i (c_dropOffer l) (mm_cb_i rfl rfl (by decide) (by decide) tc_TS_dropOffer ti_TS ⟨by decide, by decide, by decide +kernel⟩ (Or.inl tl_TS_185)) rfl tv_TS_dropOffer tx_TS_dropOffer, fun _ h => absurd h List.not_mem_nil⟩)
  · rintro as x K ⟨rfl, hk⟩
    refine ⟨400, ?_⟩
    refine v_aload_n d_TS_lose_0 rfl ?_
    refine a_go (by decide) (v_iconst d_TS_lose_1 ki_m1 ?_)
    refine a_go (by decide) (v_putI d_TS_lose_2 rfl rfl rfl ?_)
    refine a_go (by decide) (v_aload_n d_TS_lose_5 rfl ?_)
    refine a_go (by decide) (v_iconst d_TS_lose_6 ki_0 ?_)
    refine a_go (by decide) (v_putI d_TS_lose_7 rfl rfl rfl ?_)
    refine a_go (by decide) (v_aload_n d_TS_lose_10 rfl ?_)
    refine a_go (by decide) (v_iconst d_TS_lose_11 ki_0 ?_)
    refine a_go (by decide) (v_putI d_TS_lose_12 rfl rfl rfl ?_)
    refine a_go (by decide) (v_aload_n d_TS_lose_15 rfl ?_)
    refine a_go (by decide) (v_callV d_TS_lose_16 rfl (mm_spl 1 rfl) rfl (Nat.le_of_ble_eq_true rfl) rfl ?_)
    refine (i_dropOffer ?_)
    refine a_go (by decide) (v_bipush d_TS_lose_19 kb_m106 ?_)
    refine a_go (by decide) (v_ireturn d_TS_lose_21 rfl rfl ?_)
    exact mm_fiVS hk rfl
  · intro as x K _ k pc lv x' h
    cases h
theorem J_lose {x : mm_S} (hpre : mm_J x) : mm_J (e_lose x).2 := show mm_JP (e_lose x) from (mm_JPi (J_dropOffer (mm_Js (by decide) (mm_Js (by decide) (mm_Js (by decide) hpre)))))
-- TwoSlots.runActive()I
def e_runActive (x : mm_S) : Int32 × mm_S :=
  let y1 := x.1 23
  let q2 := e_isGood y1 x
  if q2.1 = (0 : Int32) then
    let y3 := e_other y1 q2.2
    let q4 := e_isGood y3 q2.2
    if q4.1 = (0 : Int32) then
      ((-1 : Int32), q4.2)
    else
      let q5 := e_appActive y3 q4.2
      if q5.1 = (0 : Int32) then
        let q7 := e_lose q5.2
        (q7.1, q7.2)
      else
        let x6 := mm_setI q5.2 3 y3
        (x6.1 3, x6)
  else
    let x8 := mm_setI q2.2 3 y1
    (x8.1 3, x8)
def S_runActive : mm_P := fun as x K => as = [.ref 0] ∧ (mm_J x) ∧ K (some (.int (e_runActive x).1)) (e_runActive x).2
theorem i_runActive {x : mm_S} {K : mm_K} (hpre : (mm_J x)) (hk : K (some (.int (e_runActive x).1)) (e_runActive x).2) : S_runActive [.ref 0] x K := ⟨rfl, hpre, hk⟩
def G_runActive : mm_G := (FT_TS, CI_TS, CJ_TS, mm_tb [(167, 1, S_other)], mm_tb [(230, 2, 0, S_isGood), (254, 2, 2, S_appActive), (173, 1, 0, S_lose)], none)
def rm_runActive : Room := { frames := 5, cells := 0, slots := 0, locals := 121 }
set_option maxRecDepth 10000 in
theorem c_runActive (l : Launch) : mm_Con l NW CL TB LC y_TS_runActive b_TS_runActive 3 (some .int) rm_runActive S_runActive := by
  refine mm_con G_runActive [] (fun _ _ _ _ _ _ _ => False) (by decide +kernel) tb_good LC_u nw_nest ?_ rfl ft_TS ci_TS cj_TS ?_ ?_ ?_ ?_
  · rintro as x K ⟨rfl, -⟩
    exact Nat.le_of_ble_eq_true rfl
  · exact mm_tb_e (List.forall_mem_cons.mpr ⟨mm_cst_i (c_other l) (mm_cb_i rfl rfl (by decide) (by decide) tc_TS_otherThan ti_TS ⟨by decide, by decide, by decide +kernel⟩ (Or.inl tl_TS_167)) ts_TS_otherThan, fun _ h => absurd h List.not_mem_nil⟩)
  · exact mm_tb_e (List.forall_mem_cons.mpr ⟨mm_cvt_i (c_isGood l) (mm_cb_i rfl rfl (by decide) (by decide) tc_TS_isGood ti_TS ⟨by decide, by decide, by decide +kernel⟩ (Or.inl tl_TS_230)) rfl tv_TS_isGood tx_TS_isGood, List.forall_mem_cons.mpr ⟨mm_cvt_i (c_appActive l) (mm_cb_i rfl rfl (by decide) (by decide) tc_LG_appendActive ti_LG ⟨by decide, by decide, by decide +kernel⟩ (Or.inl tl_TS_254)) rfl tv_LG_appendActive tx_LG_appendActive, List.forall_mem_cons.mpr ⟨mm_cvt_i (c_lose l) (mm_cb_i rfl rfl (by decide) (by decide) tc_TS_lose ti_TS ⟨by decide, by decide, by decide +kernel⟩ (Or.inl tl_TS_173)) rfl tv_TS_lose tx_TS_lose, fun _ h => absurd h List.not_mem_nil⟩⟩⟩)
  · rintro as x K ⟨rfl, hpre, hk⟩
    refine ⟨400, ?_⟩
    refine v_aload_n d_TS_runActive_0 rfl ?_
    refine a_go (by decide) (v_getR d_TS_runActive_1 rfl rfl rfl ?_)
    refine a_go (by decide) (v_getI d_TS_runActive_4 rfl rfl rfl ?_)
    refine a_go (by decide) (v_istore_n d_TS_runActive_7 (by decide) ?_)
    refine a_go (by decide) (v_aload_n d_TS_runActive_8 rfl ?_)
    refine a_go (by decide) (v_iload_n d_TS_runActive_9 rfl ?_)
    refine a_go (by decide) (v_callV d_TS_runActive_10 rfl (mm_spl 2 rfl) rfl (Nat.le_of_ble_eq_true rfl) rfl ?_)
    refine (i_isGood ?_)
    refine a_go (by decide) (v_if_eq d_TS_runActive_13 (t := 26) (by decide) (fun c1 => ?_) (fun c1 => ?_))
    · skip
      refine a_go (by decide) (v_iload_n d_TS_runActive_26 rfl ?_)
      refine a_go (by decide) (v_callS d_TS_runActive_27 rfl (mm_spl 1 rfl) rfl (Nat.le_of_ble_eq_true rfl) ?_)
      refine (i_other ?_)
      refine a_go (by decide) (v_istore_n d_TS_runActive_30 (by decide) ?_)
      refine a_go (by decide) (v_aload_n d_TS_runActive_31 rfl ?_)
      refine a_go (by decide) (v_iload_n d_TS_runActive_32 rfl ?_)
      refine a_go (by decide) (v_callV d_TS_runActive_33 rfl (mm_spl 2 rfl) rfl (Nat.le_of_ble_eq_true rfl) rfl ?_)
      refine (i_isGood ?_)
      refine a_go (by decide) (v_if_ne d_TS_runActive_36 (t := 41) (by decide) (fun c2 => ?_) (fun c2 => ?_))
      · skip
        refine a_go (by decide) (v_aload_n d_TS_runActive_41 rfl ?_)
        refine a_go (by decide) (v_getR d_TS_runActive_42 rfl rfl rfl ?_)
        refine a_go (by decide) (v_iload_n d_TS_runActive_45 rfl ?_)
        refine a_go (by decide) (v_callV d_TS_runActive_46 rfl (mm_spl 2 rfl) rfl (Nat.le_of_ble_eq_true rfl) rfl ?_)
        refine (i_appActive (J_isGood (J_isGood hpre)) ?_)
        refine a_go (by decide) (v_if_ne d_TS_runActive_49 (t := 57) (by decide) (fun c3 => ?_) (fun c3 => ?_))
        · skip
          refine a_go (by decide) (v_aload_n d_TS_runActive_57 rfl ?_)
          refine a_go (by decide) (v_iload_n d_TS_runActive_58 rfl ?_)
          refine a_go (by decide) (v_putI d_TS_runActive_59 rfl rfl rfl ?_)
          refine a_go (by decide) (v_aload_n d_TS_runActive_62 rfl ?_)
          refine a_go (by decide) (v_getI d_TS_runActive_63 rfl rfl rfl ?_)
          refine a_go (by decide) (v_ireturn d_TS_runActive_66 rfl rfl ?_)
          exact mm_fiVS hk (mm_ifp c1 (mm_ifn c2 (mm_ifn c3 rfl)))
        · skip
          refine a_go (by decide) (v_aload_n d_TS_runActive_52 rfl ?_)
          refine a_go (by decide) (v_callV d_TS_runActive_53 rfl (mm_spl 1 rfl) rfl (Nat.le_of_ble_eq_true rfl) rfl ?_)
          refine (i_lose ?_)
          refine a_go (by decide) (v_ireturn d_TS_runActive_56 rfl rfl ?_)
          exact mm_fiVS hk (mm_ifp c1 (mm_ifn c2 (mm_ifp c3 rfl)))
      · skip
        refine a_go (by decide) (v_iconst d_TS_runActive_39 ki_m1 ?_)
        refine a_go (by decide) (v_ireturn d_TS_runActive_40 rfl rfl ?_)
        exact mm_fiVS hk (mm_ifp c1 (mm_ifp c2 rfl))
    · skip
      refine a_go (by decide) (v_aload_n d_TS_runActive_16 rfl ?_)
      refine a_go (by decide) (v_iload_n d_TS_runActive_17 rfl ?_)
      refine a_go (by decide) (v_putI d_TS_runActive_18 rfl rfl rfl ?_)
      refine a_go (by decide) (v_aload_n d_TS_runActive_21 rfl ?_)
      refine a_go (by decide) (v_getI d_TS_runActive_22 rfl rfl rfl ?_)
      refine a_go (by decide) (v_ireturn d_TS_runActive_25 rfl rfl ?_)
      exact mm_fiVS hk (mm_ifn c1 rfl)
  · intro as x K _ k pc lv x' h
    cases h
theorem J_runActive {x : mm_S} (hpre : mm_J x) : mm_J (e_runActive x).2 := show mm_JP (e_runActive x) from (mm_JifVS (fun _ => (mm_JifVS (fun _ => (mm_JPi (J_isGood (J_isGood hpre)))) (fun _ => (mm_JifVS (fun _ => (mm_JPi (J_lose (J_appActive (J_isGood (J_isGood hpre)))))) (fun _ => (mm_JPi (mm_Js (by decide) (J_appActive (J_isGood (J_isGood hpre)))))))))) (fun _ => (mm_JPi (mm_Js (by decide) (J_isGood hpre)))))
-- TwoSlots.runOnTrial(I)I
def e_runOnTrial (v0 : Int32) (x : mm_S) : Int32 × mm_S :=
  let q1 := e_appTrying v0 ((x.1 25) - (1 : Int32)) x
  if q1.1 = (0 : Int32) then
    let q5 := e_lose q1.2
    (q5.1, q5.2)
  else
    let x2 := mm_setI q1.2 6 ((q1.2.1 6) + (1 : Int32))
    let x3 := mm_setI x2 3 v0
    let x4 := mm_setI x3 4 (20 : Int32)
    (x4.1 3, x4)
def S_runOnTrial : mm_P := fun as x K => ∃ (v0 : Int32), as = [.ref 0, .int v0] ∧ (mm_J x) ∧ K (some (.int (e_runOnTrial v0 x).1)) (e_runOnTrial v0 x).2
theorem i_runOnTrial {v0 : Int32} {x : mm_S} {K : mm_K} (hpre : (mm_J x)) (hk : K (some (.int (e_runOnTrial v0 x).1)) (e_runOnTrial v0 x).2) : S_runOnTrial [.ref 0, .int v0] x K := ⟨_, rfl, hpre, hk⟩
def G_runOnTrial : mm_G := (FT_TS, CI_TS, CJ_TS, mm_tb [], mm_tb [(188, 3, 2, S_appTrying), (173, 1, 0, S_lose)], none)
def rm_runOnTrial : Room := { frames := 5, cells := 0, slots := 0, locals := 122 }
set_option maxRecDepth 10000 in
theorem c_runOnTrial (l : Launch) : mm_Con l NW CL TB LC y_TS_runOnTrial b_TS_runOnTrial 2 (some .int) rm_runOnTrial S_runOnTrial := by
  refine mm_con G_runOnTrial [] (fun _ _ _ _ _ _ _ => False) (by decide +kernel) tb_good LC_u nw_nest ?_ rfl ft_TS ci_TS cj_TS ?_ ?_ ?_ ?_
  · rintro as x K ⟨v0, rfl, -⟩
    exact Nat.le_of_ble_eq_true rfl
  · exact mm_tb_e (fun _ h => absurd h List.not_mem_nil)
  · exact mm_tb_e (List.forall_mem_cons.mpr ⟨mm_cvt_i (c_appTrying l) (mm_cb_i rfl rfl (by decide) (by decide) tc_LG_appendTrying ti_LG ⟨by decide, by decide, by decide +kernel⟩ (Or.inl tl_TS_188)) rfl tv_LG_appendTrying tx_LG_appendTrying, List.forall_mem_cons.mpr ⟨mm_cvt_i (c_lose l) (mm_cb_i rfl rfl (by decide) (by decide) tc_TS_lose ti_TS ⟨by decide, by decide, by decide +kernel⟩ (Or.inl tl_TS_173)) rfl tv_TS_lose tx_TS_lose, fun _ h => absurd h List.not_mem_nil⟩⟩)
  · rintro as x K ⟨v0, rfl, hpre, hk⟩
    refine ⟨400, ?_⟩
    refine v_aload_n d_TS_runOnTrial_0 rfl ?_
    refine a_go (by decide) (v_getR d_TS_runOnTrial_1 rfl rfl rfl ?_)
    refine a_go (by decide) (v_iload_n d_TS_runOnTrial_4 rfl ?_)
    refine a_go (by decide) (v_aload_n d_TS_runOnTrial_5 rfl ?_)
    refine a_go (by decide) (v_getR d_TS_runOnTrial_6 rfl rfl rfl ?_)
    refine a_go (by decide) (v_getI d_TS_runOnTrial_9 rfl rfl rfl ?_)
    refine a_go (by decide) (v_iconst d_TS_runOnTrial_12 ki_1 ?_)
    refine a_go (by decide) (v_isub d_TS_runOnTrial_13 ?_)
    refine a_go (by decide) (v_callV d_TS_runOnTrial_14 rfl (mm_spl 3 rfl) rfl (Nat.le_of_ble_eq_true rfl) rfl ?_)
    refine (i_appTrying hpre ?_)
    refine a_go (by decide) (v_if_ne d_TS_runOnTrial_17 (t := 25) (by decide) (fun c1 => ?_) (fun c1 => ?_))
    · skip
      refine a_go (by decide) (v_aload_n d_TS_runOnTrial_25 rfl ?_)
      refine a_go (by decide) (v_dup d_TS_runOnTrial_26 rfl ?_)
      refine a_go (by decide) (v_getI d_TS_runOnTrial_27 rfl rfl rfl ?_)
      refine a_go (by decide) (v_iconst d_TS_runOnTrial_30 ki_1 ?_)
      refine a_go (by decide) (v_iadd d_TS_runOnTrial_31 ?_)
      refine a_go (by decide) (v_putI d_TS_runOnTrial_32 rfl rfl rfl ?_)
      refine a_go (by decide) (v_aload_n d_TS_runOnTrial_35 rfl ?_)
      refine a_go (by decide) (v_iload_n d_TS_runOnTrial_36 rfl ?_)
      refine a_go (by decide) (v_putI d_TS_runOnTrial_37 rfl rfl rfl ?_)
      refine a_go (by decide) (v_aload_n d_TS_runOnTrial_40 rfl ?_)
      refine a_go (by decide) (v_bipush d_TS_runOnTrial_41 kb_20 ?_)
      refine a_go (by decide) (v_putI d_TS_runOnTrial_43 rfl rfl rfl ?_)
      refine a_go (by decide) (v_aload_n d_TS_runOnTrial_46 rfl ?_)
      refine a_go (by decide) (v_getI d_TS_runOnTrial_47 rfl rfl rfl ?_)
      refine a_go (by decide) (v_ireturn d_TS_runOnTrial_50 rfl rfl ?_)
      exact mm_fiVS hk (mm_ifn c1 rfl)
    · skip
      refine a_go (by decide) (v_aload_n d_TS_runOnTrial_20 rfl ?_)
      refine a_go (by decide) (v_callV d_TS_runOnTrial_21 rfl (mm_spl 1 rfl) rfl (Nat.le_of_ble_eq_true rfl) rfl ?_)
      refine (i_lose ?_)
      refine a_go (by decide) (v_ireturn d_TS_runOnTrial_24 rfl rfl ?_)
      exact mm_fiVS hk (mm_ifp c1 rfl)
  · intro as x K _ k pc lv x' h
    cases h
theorem J_runOnTrial {v0 : Int32} {x : mm_S} (hpre : mm_J x) : mm_J (e_runOnTrial v0 x).2 := show mm_JP (e_runOnTrial v0 x) from (mm_JifVS (fun _ => (mm_JPi (J_lose (J_appTrying hpre)))) (fun _ => (mm_JPi (mm_Js (by decide) (mm_Js (by decide) (mm_Js (by decide) (J_appTrying hpre)))))))
-- TwoSlots.bootUp()I
def e_bootUp (x : mm_S) : Int32 × mm_S :=
  let x1 := mm_setI x 5 ((x.1 5) + (1 : Int32))
  let x2 := mm_setI x1 3 (-1 : Int32)
  let x3 := mm_setI x2 4 (0 : Int32)
  let x4 := e_dropOffer x3
  if (x4.1 21) = (-1 : Int32) then
    ((-1 : Int32), x4)
  else
    let y5 := x4.1 24
    if y5 = (-1 : Int32) then
      if y5 = (-1 : Int32) then
        let q6 := e_runActive x4
        (q6.1, q6.2)
      else
        let q7 := e_appTrying (-1 : Int32) (0 : Int32) x4
        if q7.1 = (0 : Int32) then
          let q9 := e_lose q7.2
          (q9.1, q9.2)
        else
          let q8 := e_runActive q7.2
          (q8.1, q8.2)
    else
      if (x4.1 25) ≤ (0 : Int32) then
        if y5 = (-1 : Int32) then
          let q10 := e_runActive x4
          (q10.1, q10.2)
        else
          let q11 := e_appTrying (-1 : Int32) (0 : Int32) x4
          if q11.1 = (0 : Int32) then
            let q13 := e_lose q11.2
            (q13.1, q13.2)
          else
            let q12 := e_runActive q11.2
            (q12.1, q12.2)
      else
        let q14 := e_isGood y5 x4
        if q14.1 = (0 : Int32) then
          if y5 = (-1 : Int32) then
            let q15 := e_runActive q14.2
            (q15.1, q15.2)
          else
            let q16 := e_appTrying (-1 : Int32) (0 : Int32) q14.2
            if q16.1 = (0 : Int32) then
              let q18 := e_lose q16.2
              (q18.1, q18.2)
            else
              let q17 := e_runActive q16.2
              (q17.1, q17.2)
        else
          let q19 := e_runOnTrial y5 q14.2
          (q19.1, q19.2)
def S_bootUp : mm_P := fun as x K => as = [.ref 0] ∧ (mm_J x) ∧ K (some (.int (e_bootUp x).1)) (e_bootUp x).2
theorem i_bootUp {x : mm_S} {K : mm_K} (hpre : (mm_J x)) (hk : K (some (.int (e_bootUp x).1)) (e_bootUp x).2) : S_bootUp [.ref 0] x K := ⟨rfl, hpre, hk⟩
def G_bootUp : mm_G := (FT_TS, CI_TS, CJ_TS, mm_tb [], mm_tb [(185, 1, 0, S_dropOffer), (251, 1, 0, S_runActive), (188, 3, 2, S_appTrying), (173, 1, 0, S_lose), (230, 2, 0, S_isGood), (248, 2, 0, S_runOnTrial)], none)
def rm_bootUp : Room := { frames := 6, cells := 0, slots := 0, locals := 143 }
set_option maxRecDepth 10000 in
theorem c_bootUp (l : Launch) : mm_Con l NW CL TB LC y_TS_bootUp b_TS_bootUp 2 (some .int) rm_bootUp S_bootUp := by
  refine mm_con G_bootUp [] (fun _ _ _ _ _ _ _ => False) (by decide +kernel) tb_good LC_u nw_nest ?_ rfl ft_TS ci_TS cj_TS ?_ ?_ ?_ ?_
  · rintro as x K ⟨rfl, -⟩
    exact Nat.le_of_ble_eq_true rfl
  · exact mm_tb_e (fun _ h => absurd h List.not_mem_nil)
  · exact mm_tb_e (List.forall_mem_cons.mpr ⟨mm_cvt_i (c_dropOffer l) (mm_cb_i rfl rfl (by decide) (by decide) tc_TS_dropOffer ti_TS ⟨by decide, by decide, by decide +kernel⟩ (Or.inl tl_TS_185)) rfl tv_TS_dropOffer tx_TS_dropOffer, List.forall_mem_cons.mpr ⟨mm_cvt_i (c_runActive l) (mm_cb_i rfl rfl (by decide) (by decide) tc_TS_runActive ti_TS ⟨by decide, by decide, by decide +kernel⟩ (Or.inl tl_TS_251)) rfl tv_TS_runActive tx_TS_runActive, List.forall_mem_cons.mpr ⟨mm_cvt_i (c_appTrying l) (mm_cb_i rfl rfl (by decide) (by decide) tc_LG_appendTrying ti_LG ⟨by decide, by decide, by decide +kernel⟩ (Or.inl tl_TS_188)) rfl tv_LG_appendTrying tx_LG_appendTrying, List.forall_mem_cons.mpr ⟨mm_cvt_i (c_lose l) (mm_cb_i rfl rfl (by decide) (by decide) tc_TS_lose ti_TS ⟨by decide, by decide, by decide +kernel⟩ (Or.inl tl_TS_173)) rfl tv_TS_lose tx_TS_lose, List.forall_mem_cons.mpr ⟨mm_cvt_i (c_isGood l) (mm_cb_i rfl rfl (by decide) (by decide) tc_TS_isGood ti_TS ⟨by decide, by decide, by decide +kernel⟩ (Or.inl tl_TS_230)) rfl tv_TS_isGood tx_TS_isGood, List.forall_mem_cons.mpr ⟨mm_cvt_i (c_runOnTrial l) (mm_cb_i rfl rfl (by decide) (by decide) tc_TS_runOnTrial ti_TS ⟨by decide, by decide, by decide +kernel⟩ (Or.inl tl_TS_248)) rfl tv_TS_runOnTrial tx_TS_runOnTrial, fun _ h => absurd h List.not_mem_nil⟩⟩⟩⟩⟩⟩)
  · rintro as x K ⟨rfl, hpre, hk⟩
    refine ⟨400, ?_⟩
    refine v_aload_n d_TS_bootUp_0 rfl ?_
    refine a_go (by decide) (v_dup d_TS_bootUp_1 rfl ?_)
    refine a_go (by decide) (v_getI d_TS_bootUp_2 rfl rfl rfl ?_)
    refine a_go (by decide) (v_iconst d_TS_bootUp_5 ki_1 ?_)
    refine a_go (by decide) (v_iadd d_TS_bootUp_6 ?_)
    refine a_go (by decide) (v_putI d_TS_bootUp_7 rfl rfl rfl ?_)
    refine a_go (by decide) (v_aload_n d_TS_bootUp_10 rfl ?_)
    refine a_go (by decide) (v_iconst d_TS_bootUp_11 ki_m1 ?_)
    refine a_go (by decide) (v_putI d_TS_bootUp_12 rfl rfl rfl ?_)
    refine a_go (by decide) (v_aload_n d_TS_bootUp_15 rfl ?_)
    refine a_go (by decide) (v_iconst d_TS_bootUp_16 ki_0 ?_)
    refine a_go (by decide) (v_putI d_TS_bootUp_17 rfl rfl rfl ?_)
    refine a_go (by decide) (v_aload_n d_TS_bootUp_20 rfl ?_)
    refine a_go (by decide) (v_callV d_TS_bootUp_21 rfl (mm_spl 1 rfl) rfl (Nat.le_of_ble_eq_true rfl) rfl ?_)
    refine (i_dropOffer ?_)
    refine a_go (by decide) (v_aload_n d_TS_bootUp_24 rfl ?_)
    refine a_go (by decide) (v_getR d_TS_bootUp_25 rfl rfl rfl ?_)
    refine a_go (by decide) (v_getI d_TS_bootUp_28 rfl rfl rfl ?_)
    refine a_go (by decide) (v_iconst d_TS_bootUp_31 ki_m1 ?_)
    refine a_go (by decide) (v_icmp_ne d_TS_bootUp_32 (t := 37) (by decide) (fun c1 => ?_) (fun c1 => ?_))
    · skip
      refine a_go (by decide) (v_aload_n d_TS_bootUp_37 rfl ?_)
      refine a_go (by decide) (v_getR d_TS_bootUp_38 rfl rfl rfl ?_)
      refine a_go (by decide) (v_getI d_TS_bootUp_41 rfl rfl rfl ?_)
      refine a_go (by decide) (v_istore_n d_TS_bootUp_44 (by decide) ?_)
      refine a_go (by decide) (v_iload_n d_TS_bootUp_45 rfl ?_)
      refine a_go (by decide) (v_iconst d_TS_bootUp_46 ki_m1 ?_)
      refine a_go (by decide) (v_icmp_eq d_TS_bootUp_47 (t := 74) (by decide) (fun c2 => ?_) (fun c2 => ?_))
      · skip
        refine a_go (by decide) (v_iload_n d_TS_bootUp_74 rfl ?_)
        refine a_go (by decide) (v_iconst d_TS_bootUp_75 ki_m1 ?_)
        refine a_go (by decide) (v_icmp_eq d_TS_bootUp_76 (t := 96) (by decide) (fun c3 => ?_) (fun c3 => ?_))
        · skip
          refine a_go (by decide) (v_aload_n d_TS_bootUp_96 rfl ?_)
          refine a_go (by decide) (v_callV d_TS_bootUp_97 rfl (mm_spl 1 rfl) rfl (Nat.le_of_ble_eq_true rfl) rfl ?_)
          refine (i_runActive (J_dropOffer (mm_Js (by decide) (mm_Js (by decide) (mm_Js (by decide) hpre)))) ?_)
          refine a_go (by decide) (v_ireturn d_TS_bootUp_100 rfl rfl ?_)
          exact mm_fiVS hk (mm_ifn c1 (mm_ifp c2 (mm_ifp c3 rfl)))
        · skip
          refine a_go (by decide) (v_aload_n d_TS_bootUp_79 rfl ?_)
          refine a_go (by decide) (v_getR d_TS_bootUp_80 rfl rfl rfl ?_)
          refine a_go (by decide) (v_iconst d_TS_bootUp_83 ki_m1 ?_)
          refine a_go (by decide) (v_iconst d_TS_bootUp_84 ki_0 ?_)
          refine a_go (by decide) (v_callV d_TS_bootUp_85 rfl (mm_spl 3 rfl) rfl (Nat.le_of_ble_eq_true rfl) rfl ?_)
          refine (i_appTrying (J_dropOffer (mm_Js (by decide) (mm_Js (by decide) (mm_Js (by decide) hpre)))) ?_)
          refine a_go (by decide) (v_if_ne d_TS_bootUp_88 (t := 96) (by decide) (fun c4 => ?_) (fun c4 => ?_))
          · skip
            refine a_go (by decide) (v_aload_n d_TS_bootUp_96 rfl ?_)
            refine a_go (by decide) (v_callV d_TS_bootUp_97 rfl (mm_spl 1 rfl) rfl (Nat.le_of_ble_eq_true rfl) rfl ?_)
            refine (i_runActive (J_appTrying (J_dropOffer (mm_Js (by decide) (mm_Js (by decide) (mm_Js (by decide) hpre))))) ?_)
            refine a_go (by decide) (v_ireturn d_TS_bootUp_100 rfl rfl ?_)
            exact mm_fiVS hk (mm_ifn c1 (mm_ifp c2 (mm_ifn c3 (mm_ifn c4 rfl))))
          · skip
            refine a_go (by decide) (v_aload_n d_TS_bootUp_91 rfl ?_)
            refine a_go (by decide) (v_callV d_TS_bootUp_92 rfl (mm_spl 1 rfl) rfl (Nat.le_of_ble_eq_true rfl) rfl ?_)
            refine (i_lose ?_)
            refine a_go (by decide) (v_ireturn d_TS_bootUp_95 rfl rfl ?_)
            exact mm_fiVS hk (mm_ifn c1 (mm_ifp c2 (mm_ifn c3 (mm_ifp c4 rfl))))
      · skip
        refine a_go (by decide) (v_aload_n d_TS_bootUp_50 rfl ?_)
        refine a_go (by decide) (v_getR d_TS_bootUp_51 rfl rfl rfl ?_)
        refine a_go (by decide) (v_getI d_TS_bootUp_54 rfl rfl rfl ?_)
        refine a_go (by decide) (v_if_le d_TS_bootUp_57 (t := 74) (by decide) (fun c5 => ?_) (fun c5 => ?_))
        · skip
          refine a_go (by decide) (v_iload_n d_TS_bootUp_74 rfl ?_)
          refine a_go (by decide) (v_iconst d_TS_bootUp_75 ki_m1 ?_)
          refine a_go (by decide) (v_icmp_eq d_TS_bootUp_76 (t := 96) (by decide) (fun c6 => ?_) (fun c6 => ?_))
          · skip
            refine a_go (by decide) (v_aload_n d_TS_bootUp_96 rfl ?_)
            refine a_go (by decide) (v_callV d_TS_bootUp_97 rfl (mm_spl 1 rfl) rfl (Nat.le_of_ble_eq_true rfl) rfl ?_)
            refine (i_runActive (J_dropOffer (mm_Js (by decide) (mm_Js (by decide) (mm_Js (by decide) hpre)))) ?_)
            refine a_go (by decide) (v_ireturn d_TS_bootUp_100 rfl rfl ?_)
            exact mm_fiVS hk (mm_ifn c1 (mm_ifn c2 (mm_ifp c5 (mm_ifp c6 rfl))))
          · skip
            refine a_go (by decide) (v_aload_n d_TS_bootUp_79 rfl ?_)
            refine a_go (by decide) (v_getR d_TS_bootUp_80 rfl rfl rfl ?_)
            refine a_go (by decide) (v_iconst d_TS_bootUp_83 ki_m1 ?_)
            refine a_go (by decide) (v_iconst d_TS_bootUp_84 ki_0 ?_)
            refine a_go (by decide) (v_callV d_TS_bootUp_85 rfl (mm_spl 3 rfl) rfl (Nat.le_of_ble_eq_true rfl) rfl ?_)
            refine (i_appTrying (J_dropOffer (mm_Js (by decide) (mm_Js (by decide) (mm_Js (by decide) hpre)))) ?_)
            refine a_go (by decide) (v_if_ne d_TS_bootUp_88 (t := 96) (by decide) (fun c7 => ?_) (fun c7 => ?_))
            · skip
              refine a_go (by decide) (v_aload_n d_TS_bootUp_96 rfl ?_)
              refine a_go (by decide) (v_callV d_TS_bootUp_97 rfl (mm_spl 1 rfl) rfl (Nat.le_of_ble_eq_true rfl) rfl ?_)
              refine (i_runActive (J_appTrying (J_dropOffer (mm_Js (by decide) (mm_Js (by decide) (mm_Js (by decide) hpre))))) ?_)
              refine a_go (by decide) (v_ireturn d_TS_bootUp_100 rfl rfl ?_)
              exact mm_fiVS hk (mm_ifn c1 (mm_ifn c2 (mm_ifp c5 (mm_ifn c6 (mm_ifn c7 rfl)))))
            · skip
              refine a_go (by decide) (v_aload_n d_TS_bootUp_91 rfl ?_)
              refine a_go (by decide) (v_callV d_TS_bootUp_92 rfl (mm_spl 1 rfl) rfl (Nat.le_of_ble_eq_true rfl) rfl ?_)
              refine (i_lose ?_)
              refine a_go (by decide) (v_ireturn d_TS_bootUp_95 rfl rfl ?_)
              exact mm_fiVS hk (mm_ifn c1 (mm_ifn c2 (mm_ifp c5 (mm_ifn c6 (mm_ifp c7 rfl)))))
        · skip
          refine a_go (by decide) (v_aload_n d_TS_bootUp_60 rfl ?_)
          refine a_go (by decide) (v_iload_n d_TS_bootUp_61 rfl ?_)
          refine a_go (by decide) (v_callV d_TS_bootUp_62 rfl (mm_spl 2 rfl) rfl (Nat.le_of_ble_eq_true rfl) rfl ?_)
          refine (i_isGood ?_)
          refine a_go (by decide) (v_if_eq d_TS_bootUp_65 (t := 74) (by decide) (fun c8 => ?_) (fun c8 => ?_))
          · skip
            refine a_go (by decide) (v_iload_n d_TS_bootUp_74 rfl ?_)
            refine a_go (by decide) (v_iconst d_TS_bootUp_75 ki_m1 ?_)
            refine a_go (by decide) (v_icmp_eq d_TS_bootUp_76 (t := 96) (by decide) (fun c9 => ?_) (fun c9 => ?_))
            · skip
              refine a_go (by decide) (v_aload_n d_TS_bootUp_96 rfl ?_)
              refine a_go (by decide) (v_callV d_TS_bootUp_97 rfl (mm_spl 1 rfl) rfl (Nat.le_of_ble_eq_true rfl) rfl ?_)
              refine (i_runActive (J_isGood (J_dropOffer (mm_Js (by decide) (mm_Js (by decide) (mm_Js (by decide) hpre))))) ?_)
              refine a_go (by decide) (v_ireturn d_TS_bootUp_100 rfl rfl ?_)
              exact mm_fiVS hk (mm_ifn c1 (mm_ifn c2 (mm_ifn c5 (mm_ifp c8 (mm_ifp c9 rfl)))))
            · skip
              refine a_go (by decide) (v_aload_n d_TS_bootUp_79 rfl ?_)
              refine a_go (by decide) (v_getR d_TS_bootUp_80 rfl rfl rfl ?_)
              refine a_go (by decide) (v_iconst d_TS_bootUp_83 ki_m1 ?_)
              refine a_go (by decide) (v_iconst d_TS_bootUp_84 ki_0 ?_)
              refine a_go (by decide) (v_callV d_TS_bootUp_85 rfl (mm_spl 3 rfl) rfl (Nat.le_of_ble_eq_true rfl) rfl ?_)
              refine (i_appTrying (J_isGood (J_dropOffer (mm_Js (by decide) (mm_Js (by decide) (mm_Js (by decide) hpre))))) ?_)
              refine a_go (by decide) (v_if_ne d_TS_bootUp_88 (t := 96) (by decide) (fun c10 => ?_) (fun c10 => ?_))
              · skip
                refine a_go (by decide) (v_aload_n d_TS_bootUp_96 rfl ?_)
                refine a_go (by decide) (v_callV d_TS_bootUp_97 rfl (mm_spl 1 rfl) rfl (Nat.le_of_ble_eq_true rfl) rfl ?_)
                refine (i_runActive (J_appTrying (J_isGood (J_dropOffer (mm_Js (by decide) (mm_Js (by decide) (mm_Js (by decide) hpre)))))) ?_)
                refine a_go (by decide) (v_ireturn d_TS_bootUp_100 rfl rfl ?_)
                exact mm_fiVS hk (mm_ifn c1 (mm_ifn c2 (mm_ifn c5 (mm_ifp c8 (mm_ifn c9 (mm_ifn c10 rfl))))))
              · skip
                refine a_go (by decide) (v_aload_n d_TS_bootUp_91 rfl ?_)
                refine a_go (by decide) (v_callV d_TS_bootUp_92 rfl (mm_spl 1 rfl) rfl (Nat.le_of_ble_eq_true rfl) rfl ?_)
                refine (i_lose ?_)
                refine a_go (by decide) (v_ireturn d_TS_bootUp_95 rfl rfl ?_)
                exact mm_fiVS hk (mm_ifn c1 (mm_ifn c2 (mm_ifn c5 (mm_ifp c8 (mm_ifn c9 (mm_ifp c10 rfl))))))
          · skip
            refine a_go (by decide) (v_aload_n d_TS_bootUp_68 rfl ?_)
            refine a_go (by decide) (v_iload_n d_TS_bootUp_69 rfl ?_)
            refine a_go (by decide) (v_callV d_TS_bootUp_70 rfl (mm_spl 2 rfl) rfl (Nat.le_of_ble_eq_true rfl) rfl ?_)
            refine (i_runOnTrial (J_isGood (J_dropOffer (mm_Js (by decide) (mm_Js (by decide) (mm_Js (by decide) hpre))))) ?_)
            refine a_go (by decide) (v_ireturn d_TS_bootUp_73 rfl rfl ?_)
            exact mm_fiVS hk (mm_ifn c1 (mm_ifn c2 (mm_ifn c5 (mm_ifn c8 rfl))))
    · skip
      refine a_go (by decide) (v_iconst d_TS_bootUp_35 ki_m1 ?_)
      refine a_go (by decide) (v_ireturn d_TS_bootUp_36 rfl rfl ?_)
      exact mm_fiVS hk (mm_ifp c1 rfl)
  · intro as x K _ k pc lv x' h
    cases h
theorem J_bootUp {x : mm_S} (hpre : mm_J x) : mm_J (e_bootUp x).2 := show mm_JP (e_bootUp x) from (mm_JifVS (fun _ => (mm_JPi (J_dropOffer (mm_Js (by decide) (mm_Js (by decide) (mm_Js (by decide) hpre)))))) (fun _ => (mm_JifVS (fun _ => (mm_JifVS (fun _ => (mm_JPi (J_runActive (J_dropOffer (mm_Js (by decide) (mm_Js (by decide) (mm_Js (by decide) hpre))))))) (fun _ => (mm_JifVS (fun _ => (mm_JPi (J_lose (J_appTrying (J_dropOffer (mm_Js (by decide) (mm_Js (by decide) (mm_Js (by decide) hpre)))))))) (fun _ => (mm_JPi (J_runActive (J_appTrying (J_dropOffer (mm_Js (by decide) (mm_Js (by decide) (mm_Js (by decide) hpre)))))))))))) (fun _ => (mm_JifVS (fun _ => (mm_JifVS (fun _ => (mm_JPi (J_runActive (J_dropOffer (mm_Js (by decide) (mm_Js (by decide) (mm_Js (by decide) hpre))))))) (fun _ => (mm_JifVS (fun _ => (mm_JPi (J_lose (J_appTrying (J_dropOffer (mm_Js (by decide) (mm_Js (by decide) (mm_Js (by decide) hpre)))))))) (fun _ => (mm_JPi (J_runActive (J_appTrying (J_dropOffer (mm_Js (by decide) (mm_Js (by decide) (mm_Js (by decide) hpre)))))))))))) (fun _ => (mm_JifVS (fun _ => (mm_JifVS (fun _ => (mm_JPi (J_runActive (J_isGood (J_dropOffer (mm_Js (by decide) (mm_Js (by decide) (mm_Js (by decide) hpre)))))))) (fun _ => (mm_JifVS (fun _ => (mm_JPi (J_lose (J_appTrying (J_isGood (J_dropOffer (mm_Js (by decide) (mm_Js (by decide) (mm_Js (by decide) hpre))))))))) (fun _ => (mm_JPi (J_runActive (J_appTrying (J_isGood (J_dropOffer (mm_Js (by decide) (mm_Js (by decide) (mm_Js (by decide) hpre))))))))))))) (fun _ => (mm_JPi (J_runOnTrial (J_isGood (J_dropOffer (mm_Js (by decide) (mm_Js (by decide) (mm_Js (by decide) hpre)))))))))))))))
