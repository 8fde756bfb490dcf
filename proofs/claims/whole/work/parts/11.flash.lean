-- TwoSlots$Flash.bytesOfNextWrite(I)I
def e_bnw (v0 : Int32) (x : mm_S) : Int32 × mm_S :=
  let x1 := mm_setI x 13 ((x.1 13) + (1 : Int32))
  if (x1.1 10) = (-1 : Int32) then
    (v0, x1)
  else
    let x2 := mm_setI x1 10 ((x1.1 10) - (1 : Int32))
    if (x2.1 10) = (-1 : Int32) then
      let x3 := mm_setI x2 12 (1 : Int32)
      ((x3.1 11) &&& (v0 - (1 : Int32)), x3)
    else
      (v0, x2)
def S_bnw : mm_P := fun as x K => ∃ (v0 : Int32), as = [.ref 1, .int v0] ∧ K (some (.int (e_bnw v0 x).1)) (e_bnw v0 x).2
theorem i_bnw {v0 : Int32} {x : mm_S} {K : mm_K} (hk : K (some (.int (e_bnw v0 x).1)) (e_bnw v0 x).2) : S_bnw [.ref 1, .int v0] x K := ⟨_, rfl, hk⟩
def G_bnw : mm_G := (FT_FL, CI_FL, CJ_FL, mm_tb [], mm_tb [], none)
def rm_bnw : Room := { frames := 0, cells := 0, slots := 0, locals := 0 }
set_option maxRecDepth 10000 in
theorem c_bnw (l : Launch) : mm_Con l NW CL TB LC y_FL_bytesOfNextWrite b_FL_bytesOfNextWrite 2 (some .int) rm_bnw S_bnw := by
  refine mm_con G_bnw [] (fun _ _ _ _ _ _ _ => False) (by decide +kernel) tb_good LC_u nw_nest ?_ rfl ft_FL ci_FL cj_FL ?_ ?_ ?_ ?_
  · rintro as x K ⟨v0, rfl, -⟩
    exact Nat.le_of_ble_eq_true rfl
  · exact mm_tb_e (fun _ h => absurd h List.not_mem_nil)
  · exact mm_tb_e (fun _ h => absurd h List.not_mem_nil)
  · rintro as x K ⟨v0, rfl, hk⟩
    refine ⟨400, ?_⟩
    refine v_aload_n d_FL_bytesOfNextWrite_0 rfl ?_
    refine a_go (by decide) (v_dup d_FL_bytesOfNextWrite_1 rfl ?_)
    refine a_go (by decide) (v_getI d_FL_bytesOfNextWrite_2 rfl rfl rfl ?_)
    refine a_go (by decide) (v_iconst d_FL_bytesOfNextWrite_5 ki_1 ?_)
    refine a_go (by decide) (v_iadd d_FL_bytesOfNextWrite_6 ?_)
    refine a_go (by decide) (v_putI d_FL_bytesOfNextWrite_7 rfl rfl rfl ?_)
    refine a_go (by decide) (v_aload_n d_FL_bytesOfNextWrite_10 rfl ?_)
    refine a_go (by decide) (v_getI d_FL_bytesOfNextWrite_11 rfl rfl rfl ?_)
    refine a_go (by decide) (v_iconst d_FL_bytesOfNextWrite_14 ki_m1 ?_)
    refine a_go (by decide) (v_icmp_ne d_FL_bytesOfNextWrite_15 (t := 20) (by decide) (fun c1 => ?_) (fun c1 => ?_))
    · skip
      refine a_go (by decide) (v_aload_n d_FL_bytesOfNextWrite_20 rfl ?_)
      refine a_go (by decide) (v_dup d_FL_bytesOfNextWrite_21 rfl ?_)
      refine a_go (by decide) (v_getI d_FL_bytesOfNextWrite_22 rfl rfl rfl ?_)
      refine a_go (by decide) (v_iconst d_FL_bytesOfNextWrite_25 ki_1 ?_)
      refine a_go (by decide) (v_isub d_FL_bytesOfNextWrite_26 ?_)
      refine a_go (by decide) (v_putI d_FL_bytesOfNextWrite_27 rfl rfl rfl ?_)
      refine a_go (by decide) (v_aload_n d_FL_bytesOfNextWrite_30 rfl ?_)
      refine a_go (by decide) (v_getI d_FL_bytesOfNextWrite_31 rfl rfl rfl ?_)
      refine a_go (by decide) (v_iconst d_FL_bytesOfNextWrite_34 ki_m1 ?_)
      refine a_go (by decide) (v_icmp_eq d_FL_bytesOfNextWrite_35 (t := 40) (by decide) (fun c2 => ?_) (fun c2 => ?_))
      · skip
        refine a_go (by decide) (v_aload_n d_FL_bytesOfNextWrite_40 rfl ?_)
        refine a_go (by decide) (v_iconst d_FL_bytesOfNextWrite_41 ki_1 ?_)
        refine a_go (by decide) (v_putZ d_FL_bytesOfNextWrite_42 rfl rfl rfl (by decide) ?_)
        refine a_go (by decide) (v_aload_n d_FL_bytesOfNextWrite_45 rfl ?_)
        refine a_go (by decide) (v_getI d_FL_bytesOfNextWrite_46 rfl rfl rfl ?_)
        refine a_go (by decide) (v_iload_n d_FL_bytesOfNextWrite_49 rfl ?_)
        refine a_go (by decide) (v_iconst d_FL_bytesOfNextWrite_50 ki_1 ?_)
        refine a_go (by decide) (v_isub d_FL_bytesOfNextWrite_51 ?_)
        refine a_go (by decide) (v_iand d_FL_bytesOfNextWrite_52 ?_)
        refine a_go (by decide) (v_ireturn d_FL_bytesOfNextWrite_53 rfl rfl ?_)
        exact mm_fiVS hk (mm_ifn c1 (mm_ifp c2 rfl))
      · skip
        refine a_go (by decide) (v_iload_n d_FL_bytesOfNextWrite_38 rfl ?_)
        refine a_go (by decide) (v_ireturn d_FL_bytesOfNextWrite_39 rfl rfl ?_)
        exact mm_fiVS hk (mm_ifn c1 (mm_ifn c2 rfl))
    · skip
      refine a_go (by decide) (v_iload_n d_FL_bytesOfNextWrite_18 rfl ?_)
      refine a_go (by decide) (v_ireturn d_FL_bytesOfNextWrite_19 rfl rfl ?_)
      exact mm_fiVS hk (mm_ifp c1 rfl)
  · intro as x K _ k pc lv x' h
    cases h
theorem e_bnw_21 (v : Int32) (x : mm_S) : (e_bnw v x).2.1 21 = x.1 21 := by
  simp only [e_bnw]
  split
  · rfl
  · split <;> rfl
-- TwoSlots$Flash.erase(I)Z
def l_erase_19 (k : Nat) (u1 : Int32) (u2 : Int32) (u3 : Int32) (x : mm_S) : Int32 × mm_S := match k with
  | 0 => (0, x)
  | k + 1 =>
    if u2 ≤ u3 then
      if (x.1 12) = (0 : Int32) then
        ((1 : Int32), x)
      else
        ((0 : Int32), x)
    else
      let x3 := e_putByte 4096 1 ((u1 * (64 : Int32)) + u3) (255 : Int32) x
      l_erase_19 (k) u1 u2 (u3 + (1 : Int32)) x3
def e_erase (v0 : Int32) (x : mm_S) : Int32 × mm_S :=
  let x1 := mm_setI x 14 ((x.1 14) + (1 : Int32))
  let q2 := e_bnw (64 : Int32) x1
  l_erase_19 (mm_fu (0 : Int32) q2.1) v0 q2.1 (0 : Int32) q2.2
def S_erase : mm_P := fun as x K => ∃ (v0 : Int32), as = [.ref 1, .int v0] ∧ K (some (.int (e_erase v0 x).1)) (e_erase v0 x).2
theorem i_erase {v0 : Int32} {x : mm_S} {K : mm_K} (hk : K (some (.int (e_erase v0 x).1)) (e_erase v0 x).2) : S_erase [.ref 1, .int v0] x K := ⟨_, rfl, hk⟩
def G_erase : mm_G := (FT_FL, CI_FL, CJ_FL, mm_tb [(42, 3, S_putByte)], mm_tb [(38, 2, 1, S_bnw)], none)
def rm_erase : Room := { frames := 1, cells := 0, slots := 0, locals := 22 }
abbrev Inv_erase : mm_K → List Value → mm_S → Nat → Nat → mm_V → mm_S → Prop := fun K _ _ k pc lv x => pc = 19 ∧ ∃ (u1 : Int32) (u2 : Int32) (u3 : Int32), lv = [(0, .ref 1), (1, .int u1), (2, .int u2), (3, .int u3)] ∧ mm_ms u3 u2 < k ∧ K (some (.int (l_erase_19 k u1 u2 u3 x).1)) (l_erase_19 k u1 u2 u3 x).2
set_option maxRecDepth 10000 in
theorem c_erase (l : Launch) : mm_Con l NW CL TB LC y_FL_erase b_FL_erase 4 (some .boolean) rm_erase S_erase := by
  refine mm_con G_erase [19] Inv_erase (by decide +kernel) tb_good LC_u nw_nest ?_ rfl ft_FL ci_FL cj_FL ?_ ?_ ?_ ?_
  · rintro as x K ⟨v0, rfl, -⟩
    exact Nat.le_of_ble_eq_true rfl
  · exact mm_tb_e (List.forall_mem_cons.mpr ⟨mm_cst_i (c_putByte l) (mm_cb_i rfl rfl (by decide) (by decide) tc_TS_putByte ti_TS ⟨by decide, by decide, by decide +kernel⟩ (Or.inr ⟨_, tl_FL_42⟩)) ts_TS_putByte, fun _ h => absurd h List.not_mem_nil⟩)
  · exact mm_tb_e (List.forall_mem_cons.mpr ⟨mm_cvt_i (c_bnw l) (mm_cb_i rfl rfl (by decide) (by decide) tc_FL_bytesOfNextWrite ti_FL ⟨by decide, by decide, by decide +kernel⟩ (Or.inl tl_FL_38)) rfl tv_FL_bytesOfNextWrite tx_FL_bytesOfNextWrite, fun _ h => absurd h List.not_mem_nil⟩)
  · rintro as x K ⟨v0, rfl, hk⟩
    refine ⟨400, ?_⟩
    refine v_aload_n d_FL_erase_0 rfl ?_
    refine a_go (by decide) (v_dup d_FL_erase_1 rfl ?_)
    refine a_go (by decide) (v_getI d_FL_erase_2 rfl rfl rfl ?_)
    refine a_go (by decide) (v_iconst d_FL_erase_5 ki_1 ?_)
    refine a_go (by decide) (v_iadd d_FL_erase_6 ?_)
    refine a_go (by decide) (v_putI d_FL_erase_7 rfl rfl rfl ?_)
    refine a_go (by decide) (v_aload_n d_FL_erase_10 rfl ?_)
    refine a_go (by decide) (v_bipush d_FL_erase_11 kb_64 ?_)
    refine a_go (by decide) (v_callV d_FL_erase_13 rfl (mm_spl 2 rfl) rfl (Nat.le_of_ble_eq_true rfl) rfl ?_)
    refine (i_bnw ?_)
    refine a_go (by decide) (v_istore_n d_FL_erase_16 (by decide) ?_)
    refine a_go (by decide) (v_iconst d_FL_erase_17 ki_0 ?_)
    refine a_go (by decide) (v_istore_n d_FL_erase_18 (by decide) ?_)
    refine a_cut (by decide) ⟨rfl, _, [(0, _), (1, _), (2, _), (3, _)], (mm_all_c rfl (mm_all_c rfl (mm_all_c rfl (mm_all_c rfl (mm_all_n))))), rfl, _, _, _, rfl, ?_, (mm_mvVS hk rfl)⟩
    · exact mm_ent _ _
  · rintro as x0 K - k pc lv x - ⟨rfl, u1, u2, u3, rfl, hm, hk⟩
    obtain ⟨k, rfl⟩ := mm_pos hm
    refine ⟨400, ?_⟩
    refine v_iload_n d_FL_erase_19 rfl ?_
    refine a_go (by decide) (v_iload_n d_FL_erase_20 rfl ?_)
    refine a_go (by decide) (v_icmp_ge d_FL_erase_21 (t := 46) (by decide) (fun c1 => ?_) (fun c1 => ?_))
    · skip
      refine a_go (by decide) (v_aload_n d_FL_erase_46 rfl ?_)
      refine a_go (by decide) (v_getI d_FL_erase_47 rfl rfl rfl ?_)
      refine a_go (by decide) (v_if_ne d_FL_erase_50 (t := 57) (by decide) (fun c2 => ?_) (fun c2 => ?_))
      · skip
        refine a_go (by decide) (v_iconst d_FL_erase_57 ki_0 ?_)
        refine a_go (by decide) (v_zreturn d_FL_erase_58 rfl (by decide) ?_)
        exact mm_fiVS hk (mm_ifp c1 (mm_ifn c2 rfl))
      · skip
        refine a_go (by decide) (v_iconst d_FL_erase_53 ki_1 ?_)
        refine a_go (by decide) (v_goto d_FL_erase_54 (t := 58) (by decide) ?_)
        refine a_go (by decide) (v_zreturn d_FL_erase_58 rfl (by decide) ?_)
        exact mm_fiVS hk (mm_ifp c1 (mm_ifp c2 rfl))
    · skip
      refine a_go (by decide) (v_aload_n d_FL_erase_24 rfl ?_)
      refine a_go (by decide) (v_getR d_FL_erase_25 rfl rfl rfl ?_)
      refine a_go (by decide) (v_iload_n d_FL_erase_28 rfl ?_)
      refine a_go (by decide) (v_bipush d_FL_erase_29 kb_64 ?_)
      refine a_go (by decide) (v_imul d_FL_erase_31 ?_)
      refine a_go (by decide) (v_iload_n d_FL_erase_32 rfl ?_)
      refine a_go (by decide) (v_iadd d_FL_erase_33 ?_)
      refine a_go (by decide) (v_sipush d_FL_erase_34 ks_255 ?_)
      refine a_go (by decide) (v_callS d_FL_erase_37 rfl (mm_spl 3 rfl) rfl (Nat.le_of_ble_eq_true rfl) ?_)
      refine (i_putByte rfl ?_)
      refine a_go (by decide) (v_iinc d_FL_erase_40 (by decide) rfl ki_1 ?_)
      refine a_go (by decide) (v_goto d_FL_erase_43 (t := 19) (by decide) ?_)
      refine a_cut (by decide) ⟨rfl, _, [(0, _), (1, _), (2, _), (3, _)], ?_, (mm_all_c rfl (mm_all_c rfl (mm_all_c rfl (mm_all_c rfl (mm_all_n))))), rfl, _, _, _, rfl, ?_, (mm_mvVS hk (mm_ifn c1 rfl))⟩
      · exact Nat.lt_succ_self _
      · exact mm_dec c1 hm
-- TwoSlots$Flash.programLine(I[BI)Z
def l_pline_11 (k : Nat) (n1 : Nat) (r1 : Nat) (u1 : Int32) (u3 : Int32) (u4 : Int32) (u5 : Int32) (x : mm_S) : Int32 × mm_S := match k with
  | 0 => (0, x)
  | k + 1 =>
    if u4 ≤ u5 then
      if (x.1 12) = (0 : Int32) then
        ((1 : Int32), x)
      else
        ((0 : Int32), x)
    else
      let x2 := e_putByte 4096 1 (u1 + u5) ((e_byteAt 4096 1 (u1 + u5) x) &&& (e_byteAt n1 r1 (u3 + u5) x)) x
      l_pline_11 (k) n1 r1 u1 u3 u4 (u5 + (1 : Int32)) x2
def e_pline (v0 : Int32) (n1 : Nat) (r1 : Nat) (v2 : Int32) (x : mm_S) : Int32 × mm_S :=
  let q1 := e_bnw (16 : Int32) x
  l_pline_11 (mm_fu (0 : Int32) q1.1) n1 r1 v0 v2 q1.1 (0 : Int32) q1.2
def S_pline : mm_P := fun as x K => ∃ (v0 : Int32) (a1 n1 r1 : Nat) (v2 : Int32), as = [.ref 1, .int v0, .ref a1, .int v2] ∧ mm_ar LC a1 = some (0, n1, r1) ∧ K (some (.int (e_pline v0 n1 r1 v2 x).1)) (e_pline v0 n1 r1 v2 x).2
theorem i_pline {v0 : Int32} {a1 n1 r1 : Nat} {v2 : Int32} {x : mm_S} {K : mm_K} (ha1 : mm_ar LC a1 = some (0, n1, r1)) (hk : K (some (.int (e_pline v0 n1 r1 v2 x).1)) (e_pline v0 n1 r1 v2 x).2) : S_pline [.ref 1, .int v0, .ref a1, .int v2] x K := ⟨_, _, _, _, _, rfl, ha1, hk⟩
def G_pline : mm_G := (FT_FL, CI_FL, CJ_FL, mm_tb [(46, 2, S_byteAt), (42, 3, S_putByte)], mm_tb [(38, 2, 1, S_bnw)], none)
def rm_pline : Room := { frames := 1, cells := 0, slots := 0, locals := 22 }
abbrev Inv_pline : mm_K → List Value → mm_S → Nat → Nat → mm_V → mm_S → Prop := fun K _ _ k pc lv x => pc = 11 ∧ ∃ (a1 n1 r1 : Nat) (u1 : Int32) (u3 : Int32) (u4 : Int32) (u5 : Int32), lv = [(0, .ref 1), (1, .int u1), (2, .ref a1), (3, .int u3), (4, .int u4), (5, .int u5)] ∧ mm_ar LC a1 = some (0, n1, r1) ∧ mm_ms u5 u4 < k ∧ K (some (.int (l_pline_11 k n1 r1 u1 u3 u4 u5 x).1)) (l_pline_11 k n1 r1 u1 u3 u4 u5 x).2
set_option maxRecDepth 10000 in
theorem c_pline (l : Launch) : mm_Con l NW CL TB LC y_FL_programLine b_FL_programLine 6 (some .boolean) rm_pline S_pline := by
  refine mm_con G_pline [11] Inv_pline (by decide +kernel) tb_good LC_u nw_nest ?_ rfl ft_FL ci_FL cj_FL ?_ ?_ ?_ ?_
  · rintro as x K ⟨v0, a1, n1, r1, v2, rfl, -⟩
    exact Nat.le_of_ble_eq_true rfl
  · exact mm_tb_e (List.forall_mem_cons.mpr ⟨mm_cst_i (c_byteAt l) (mm_cb_i rfl rfl (by decide) (by decide) tc_TS_byteAt ti_TS ⟨by decide, by decide, by decide +kernel⟩ (Or.inr ⟨_, tl_FL_46⟩)) ts_TS_byteAt, List.forall_mem_cons.mpr ⟨mm_cst_i (c_putByte l) (mm_cb_i rfl rfl (by decide) (by decide) tc_TS_putByte ti_TS ⟨by decide, by decide, by decide +kernel⟩ (Or.inr ⟨_, tl_FL_42⟩)) ts_TS_putByte, fun _ h => absurd h List.not_mem_nil⟩⟩)
  · exact mm_tb_e (List.forall_mem_cons.mpr ⟨mm_cvt_i (c_bnw l) (mm_cb_i rfl rfl (by decide) (by decide) tc_FL_bytesOfNextWrite ti_FL ⟨by decide, by decide, by decide +kernel⟩ (Or.inl tl_FL_38)) rfl tv_FL_bytesOfNextWrite tx_FL_bytesOfNextWrite, fun _ h => absurd h List.not_mem_nil⟩)
  · rintro as x K ⟨v0, a1, n1, r1, v2, rfl, ha1, hk⟩
    refine ⟨400, ?_⟩
    refine v_aload_n d_FL_programLine_0 rfl ?_
    refine a_go (by decide) (v_bipush d_FL_programLine_1 kb_16 ?_)
    refine a_go (by decide) (v_callV d_FL_programLine_3 rfl (mm_spl 2 rfl) rfl (Nat.le_of_ble_eq_true rfl) rfl ?_)
    refine (i_bnw ?_)
    refine a_go (by decide) (v_istore d_FL_programLine_6 (by decide) ?_)
    refine a_go (by decide) (v_iconst d_FL_programLine_8 ki_0 ?_)
    refine a_go (by decide) (v_istore d_FL_programLine_9 (by decide) ?_)
    refine a_cut (by decide) ⟨rfl, _, [(0, _), (1, _), (2, _), (3, _), (4, _), (5, _)], (mm_all_c rfl (mm_all_c rfl (mm_all_c rfl (mm_all_c rfl (mm_all_c rfl (mm_all_c rfl (mm_all_n))))))), rfl, _, _, _, _, _, _, _, rfl, ha1, ?_, (mm_mvVS hk rfl)⟩
    · exact mm_ent _ _
  · rintro as x0 K - k pc lv x - ⟨rfl, a1, n1, r1, u1, u3, u4, u5, rfl, ha1, hm, hk⟩
    obtain ⟨k, rfl⟩ := mm_pos hm
    refine ⟨400, ?_⟩
    refine v_iload d_FL_programLine_11 rfl ?_
    refine a_go (by decide) (v_iload d_FL_programLine_13 rfl ?_)
    refine a_go (by decide) (v_icmp_ge d_FL_programLine_15 (t := 55) (by decide) (fun c1 => ?_) (fun c1 => ?_))
    · skip
      refine a_go (by decide) (v_aload_n d_FL_programLine_55 rfl ?_)
      refine a_go (by decide) (v_getI d_FL_programLine_56 rfl rfl rfl ?_)
      refine a_go (by decide) (v_if_ne d_FL_programLine_59 (t := 66) (by decide) (fun c2 => ?_) (fun c2 => ?_))
      · skip
        refine a_go (by decide) (v_iconst d_FL_programLine_66 ki_0 ?_)
        refine a_go (by decide) (v_zreturn d_FL_programLine_67 rfl (by decide) ?_)
        exact mm_fiVS hk (mm_ifp c1 (mm_ifn c2 rfl))
      · skip
        refine a_go (by decide) (v_iconst d_FL_programLine_62 ki_1 ?_)
        refine a_go (by decide) (v_goto d_FL_programLine_63 (t := 67) (by decide) ?_)
        refine a_go (by decide) (v_zreturn d_FL_programLine_67 rfl (by decide) ?_)
        exact mm_fiVS hk (mm_ifp c1 (mm_ifp c2 rfl))
    · skip
      refine a_go (by decide) (v_aload_n d_FL_programLine_18 rfl ?_)
      refine a_go (by decide) (v_getR d_FL_programLine_19 rfl rfl rfl ?_)
      refine a_go (by decide) (v_iload_n d_FL_programLine_22 rfl ?_)
      refine a_go (by decide) (v_iload d_FL_programLine_23 rfl ?_)
      refine a_go (by decide) (v_iadd d_FL_programLine_25 ?_)
      refine a_go (by decide) (v_aload_n d_FL_programLine_26 rfl ?_)
      refine a_go (by decide) (v_getR d_FL_programLine_27 rfl rfl rfl ?_)
      refine a_go (by decide) (v_iload_n d_FL_programLine_30 rfl ?_)
      refine a_go (by decide) (v_iload d_FL_programLine_31 rfl ?_)
      refine a_go (by decide) (v_iadd d_FL_programLine_33 ?_)
      refine a_go (by decide) (v_callS d_FL_programLine_34 rfl (mm_spl 2 rfl) rfl (Nat.le_of_ble_eq_true rfl) ?_)
      refine (i_byteAt rfl ?_)
      refine a_go (by decide) (v_aload_n d_FL_programLine_37 rfl ?_)
      refine a_go (by decide) (v_iload_n d_FL_programLine_38 rfl ?_)
      refine a_go (by decide) (v_iload d_FL_programLine_39 rfl ?_)
      refine a_go (by decide) (v_iadd d_FL_programLine_41 ?_)
      refine a_go (by decide) (v_callS d_FL_programLine_42 rfl (mm_spl 2 rfl) rfl (Nat.le_of_ble_eq_true rfl) ?_)
      refine (i_byteAt ha1 ?_)
      refine a_go (by decide) (v_iand d_FL_programLine_45 ?_)
      refine a_go (by decide) (v_callS d_FL_programLine_46 rfl (mm_spl 3 rfl) rfl (Nat.le_of_ble_eq_true rfl) ?_)
      refine (i_putByte rfl ?_)
      refine a_go (by decide) (v_iinc d_FL_programLine_49 (by decide) rfl ki_1 ?_)
      refine a_go (by decide) (v_goto d_FL_programLine_52 (t := 11) (by decide) ?_)
      refine a_cut (by decide) ⟨rfl, _, [(0, _), (1, _), (2, _), (3, _), (4, _), (5, _)], ?_, (mm_all_c rfl (mm_all_c rfl (mm_all_c rfl (mm_all_c rfl (mm_all_c rfl (mm_all_c rfl (mm_all_n))))))), rfl, _, _, _, _, _, _, _, rfl, ha1, ?_, (mm_mvVS hk (mm_ifn c1 rfl))⟩
      · exact Nat.lt_succ_self _
      · exact mm_dec c1 hm
theorem l_pline_1 (k : Nat) : ∀ (n : Nat) (r : Nat) (a : Int32) (b : Int32) (d : Int32) (i : Int32) (x : mm_S), (l_pline_11 k n r a b d i x).2.1 = x.1 := by
  induction k with
  | zero => intros; rfl
  | succ k ih =>
    intro n r a b d i x
    simp only [l_pline_11]
    split
    · split <;> rfl
    · rw [ih, e_putByte_1]
theorem e_pline_21 (v : Int32) (n r : Nat) (w : Int32) (x : mm_S) : (e_pline v n r w x).2.1 21 = x.1 21 := by
  simp only [e_pline, l_pline_1, e_bnw_21]
-- TwoSlots$Flash.programSector(I[B)Z
def l_psector_2 (k : Nat) (n1 : Nat) (r1 : Nat) (u1 : Int32) (u3 : Int32) (x : mm_S) : Int32 × mm_S := match k with
  | 0 => (0, x)
  | k + 1 =>
    if (4 : Int32) ≤ u3 then
      ((1 : Int32), x)
    else
      let q1 := e_pline ((u1 * (64 : Int32)) + (u3 * (16 : Int32))) n1 r1 (u3 * (16 : Int32)) x
      if q1.1 = (0 : Int32) then
        ((0 : Int32), q1.2)
      else
        l_psector_2 (k) n1 r1 u1 (u3 + (1 : Int32)) q1.2
def e_psector (v0 : Int32) (n1 : Nat) (r1 : Nat) (x : mm_S) : Int32 × mm_S :=
  l_psector_2 (mm_fu (0 : Int32) 4) n1 r1 v0 (0 : Int32) x
def S_psector : mm_P := fun as x K => ∃ (v0 : Int32) (a1 n1 r1 : Nat), as = [.ref 1, .int v0, .ref a1] ∧ mm_ar LC a1 = some (0, n1, r1) ∧ K (some (.int (e_psector v0 n1 r1 x).1)) (e_psector v0 n1 r1 x).2
theorem i_psector {v0 : Int32} {a1 n1 r1 : Nat} {x : mm_S} {K : mm_K} (ha1 : mm_ar LC a1 = some (0, n1, r1)) (hk : K (some (.int (e_psector v0 n1 r1 x).1)) (e_psector v0 n1 r1 x).2) : S_psector [.ref 1, .int v0, .ref a1] x K := ⟨_, _, _, _, rfl, ha1, hk⟩
def G_psector : mm_G := (FT_FL, CI_FL, CJ_FL, mm_tb [], mm_tb [(50, 4, 1, S_pline)], none)
def rm_psector : Room := { frames := 2, cells := 0, slots := 0, locals := 47 }
abbrev Inv_psector : mm_K → List Value → mm_S → Nat → Nat → mm_V → mm_S → Prop := fun K _ _ k pc lv x => pc = 2 ∧ ∃ (a1 n1 r1 : Nat) (u1 : Int32) (u3 : Int32), lv = [(0, .ref 1), (1, .int u1), (2, .ref a1), (3, .int u3)] ∧ mm_ar LC a1 = some (0, n1, r1) ∧ mm_ms u3 4 < k ∧ K (some (.int (l_psector_2 k n1 r1 u1 u3 x).1)) (l_psector_2 k n1 r1 u1 u3 x).2
set_option maxRecDepth 10000 in
theorem c_psector (l : Launch) : mm_Con l NW CL TB LC y_FL_programSector b_FL_programSector 4 (some .boolean) rm_psector S_psector := by
  refine mm_con G_psector [2] Inv_psector (by decide +kernel) tb_good LC_u nw_nest ?_ rfl ft_FL ci_FL cj_FL ?_ ?_ ?_ ?_
  · rintro as x K ⟨v0, a1, n1, r1, rfl, -⟩
    exact Nat.le_of_ble_eq_true rfl
  · exact mm_tb_e (fun _ h => absurd h List.not_mem_nil)
  · exact mm_tb_e (List.forall_mem_cons.mpr ⟨mm_cvt_i (c_pline l) (mm_cb_i rfl rfl (by decide) (by decide) tc_FL_programLine ti_FL ⟨by decide, by decide, by decide +kernel⟩ (Or.inl tl_FL_50)) rfl tv_FL_programLine tx_FL_programLine, fun _ h => absurd h List.not_mem_nil⟩)
  · rintro as x K ⟨v0, a1, n1, r1, rfl, ha1, hk⟩
    refine ⟨400, ?_⟩
    refine v_iconst d_FL_programSector_0 ki_0 ?_
    refine a_go (by decide) (v_istore_n d_FL_programSector_1 (by decide) ?_)
    refine a_cut (by decide) ⟨rfl, _, [(0, _), (1, _), (2, _), (3, _)], (mm_all_c rfl (mm_all_c rfl (mm_all_c rfl (mm_all_c rfl (mm_all_n))))), rfl, _, _, _, _, _, rfl, ha1, ?_, (mm_mvVS hk rfl)⟩
    · exact mm_ent _ _
  · rintro as x0 K - k pc lv x - ⟨rfl, a1, n1, r1, u1, u3, rfl, ha1, hm, hk⟩
    obtain ⟨k, rfl⟩ := mm_pos hm
    refine ⟨400, ?_⟩
    refine v_iload_n d_FL_programSector_2 rfl ?_
    refine a_go (by decide) (v_iconst d_FL_programSector_3 ki_4 ?_)
    refine a_go (by decide) (v_icmp_ge d_FL_programSector_4 (t := 36) (by decide) (fun c1 => ?_) (fun c1 => ?_))
    · skip
      refine a_go (by decide) (v_iconst d_FL_programSector_36 ki_1 ?_)
      refine a_go (by decide) (v_zreturn d_FL_programSector_37 rfl (by decide) ?_)
      exact mm_fiVS hk (mm_ifp c1 rfl)
    · skip
      refine a_go (by decide) (v_aload_n d_FL_programSector_7 rfl ?_)
      refine a_go (by decide) (v_iload_n d_FL_programSector_8 rfl ?_)
      refine a_go (by decide) (v_bipush d_FL_programSector_9 kb_64 ?_)
      refine a_go (by decide) (v_imul d_FL_programSector_11 ?_)
      refine a_go (by decide) (v_iload_n d_FL_programSector_12 rfl ?_)
      refine a_go (by decide) (v_bipush d_FL_programSector_13 kb_16 ?_)
      refine a_go (by decide) (v_imul d_FL_programSector_15 ?_)
      refine a_go (by decide) (v_iadd d_FL_programSector_16 ?_)
      refine a_go (by decide) (v_aload_n d_FL_programSector_17 rfl ?_)
      refine a_go (by decide) (v_iload_n d_FL_programSector_18 rfl ?_)
      refine a_go (by decide) (v_bipush d_FL_programSector_19 kb_16 ?_)
      refine a_go (by decide) (v_imul d_FL_programSector_21 ?_)
      refine a_go (by decide) (v_callV d_FL_programSector_22 rfl (mm_spl 4 rfl) rfl (Nat.le_of_ble_eq_true rfl) rfl ?_)
      refine (i_pline ha1 ?_)
      refine a_go (by decide) (v_if_ne d_FL_programSector_25 (t := 30) (by decide) (fun c2 => ?_) (fun c2 => ?_))
      · skip
        refine a_go (by decide) (v_iinc d_FL_programSector_30 (by decide) rfl ki_1 ?_)
        refine a_go (by decide) (v_goto d_FL_programSector_33 (t := 2) (by decide) ?_)
        refine a_cut (by decide) ⟨rfl, _, [(0, _), (1, _), (2, _), (3, _)], ?_, (mm_all_c rfl (mm_all_c rfl (mm_all_c rfl (mm_all_c rfl (mm_all_n))))), rfl, _, _, _, _, _, rfl, ha1, ?_, (mm_mvVS hk (mm_ifn c1 (mm_ifn c2 rfl)))⟩
        · exact Nat.lt_succ_self _
        · exact mm_dec c1 hm
      · skip
        refine a_go (by decide) (v_iconst d_FL_programSector_28 ki_0 ?_)
        refine a_go (by decide) (v_zreturn d_FL_programSector_29 rfl (by decide) ?_)
        exact mm_fiVS hk (mm_ifn c1 (mm_ifp c2 rfl))
theorem l_psector_21 (k : Nat) : ∀ (n r : Nat) (a i : Int32) (x : mm_S), (l_psector_2 k n r a i x).2.1 21 = x.1 21 := by
  induction k with
  | zero => intros; rfl
  | succ k ih =>
    intro n r a i x
    simp only [l_psector_2]
    split
    · rfl
    · split
      · rw [e_pline_21]
      · rw [ih, e_pline_21]
theorem e_psector_21 (v : Int32) (n r : Nat) (x : mm_S) : (e_psector v n r x).2.1 21 = x.1 21 := by
  simp only [e_psector, l_psector_21]
