-- TwoSlots$Header.version()I
def e_hs_version (x : mm_S) : Int32 :=
  Int64.toInt32 (e_numberAt 64 3 (4 : Int32) (4 : Int32) x)
def S_hs_version : mm_P := fun as x K => as = [.ref 7] ∧ K (some (.int (e_hs_version x))) x
theorem i_hs_version {x : mm_S} {K : mm_K} (hk : K (some (.int (e_hs_version x))) x) : S_hs_version [.ref 7] x K := ⟨rfl, hk⟩
def G_hs_version : mm_G := (FT_HD, CI_HD, CJ_HD, mm_tb [(35, 3, S_numberAt)], mm_tb [], none)
def rm_hs_version : Room := { frames := 1, cells := 0, slots := 0, locals := 25 }
set_option maxRecDepth 10000 in
theorem c_hs_version (l : Launch) : mm_Con l NW CL TB LC y_HD_version b_HD_version 1 (some .int) rm_hs_version S_hs_version := by
  refine mm_con G_hs_version [] (fun _ _ _ _ _ _ _ => False) (by decide +kernel) tb_good LC_u nw_nest ?_ rfl ft_HD ci_HD cj_HD ?_ ?_ ?_ ?_
  · rintro as x K ⟨rfl, -⟩
    exact Nat.le_of_ble_eq_true rfl
  · exact mm_tb_e (List.forall_mem_cons.mpr ⟨mm_cst_i (c_numberAt l) (mm_cb_i rfl rfl (by decide) (by decide) tc_TS_numberAt ti_TS ⟨by decide, by decide, by decide +kernel⟩ (Or.inr ⟨_, tl_HD_35⟩)) ts_TS_numberAt, fun _ h => absurd h List.not_mem_nil⟩)
  · exact mm_tb_e (fun _ h => absurd h List.not_mem_nil)
  · rintro as x K ⟨rfl, hk⟩
    refine ⟨400, ?_⟩
    refine v_aload_n d_HD_version_0 rfl ?_
    refine a_go (by decide) (v_getR d_HD_version_1 rfl rfl rfl ?_)
    refine a_go (by decide) (v_iconst d_HD_version_4 ki_4 ?_)
    refine a_go (by decide) (v_iconst d_HD_version_5 ki_4 ?_)
    refine a_go (by decide) (v_callS d_HD_version_6 rfl (mm_spl 3 rfl) rfl (Nat.le_of_ble_eq_true rfl) ?_)
    refine (i_numberAt rfl (by decide) ?_)
    refine a_go (by decide) (v_l2i d_HD_version_9 ?_)
    refine a_go (by decide) (v_ireturn d_HD_version_10 rfl rfl ?_)
    exact mm_fiV hk rfl
  · intro as x K _ k pc lv x' h
    cases h
-- TwoSlots$Header.size()I
def e_hs_size (x : mm_S) : Int32 :=
  Int64.toInt32 (e_numberAt 64 3 (8 : Int32) (4 : Int32) x)
def S_hs_size : mm_P := fun as x K => as = [.ref 7] ∧ K (some (.int (e_hs_size x))) x
theorem i_hs_size {x : mm_S} {K : mm_K} (hk : K (some (.int (e_hs_size x))) x) : S_hs_size [.ref 7] x K := ⟨rfl, hk⟩
def G_hs_size : mm_G := (FT_HD, CI_HD, CJ_HD, mm_tb [(35, 3, S_numberAt)], mm_tb [], none)
def rm_hs_size : Room := { frames := 1, cells := 0, slots := 0, locals := 25 }
set_option maxRecDepth 10000 in
theorem c_hs_size (l : Launch) : mm_Con l NW CL TB LC y_HD_size b_HD_size 1 (some .int) rm_hs_size S_hs_size := by
  refine mm_con G_hs_size [] (fun _ _ _ _ _ _ _ => False) (by decide +kernel) tb_good LC_u nw_nest ?_ rfl ft_HD ci_HD cj_HD ?_ ?_ ?_ ?_
  · rintro as x K ⟨rfl, -⟩
    exact Nat.le_of_ble_eq_true rfl
  · exact mm_tb_e (List.forall_mem_cons.mpr ⟨mm_cst_i (c_numberAt l) (mm_cb_i rfl rfl (by decide) (by decide) tc_TS_numberAt ti_TS ⟨by decide, by decide, by decide +kernel⟩ (Or.inr ⟨_, tl_HD_35⟩)) ts_TS_numberAt, fun _ h => absurd h List.not_mem_nil⟩)
  · exact mm_tb_e (fun _ h => absurd h List.not_mem_nil)
  · rintro as x K ⟨rfl, hk⟩
    refine ⟨400, ?_⟩
    refine v_aload_n d_HD_size_0 rfl ?_
    refine a_go (by decide) (v_getR d_HD_size_1 rfl rfl rfl ?_)
    refine a_go (by decide) (v_bipush d_HD_size_4 kb_8 ?_)
    refine a_go (by decide) (v_iconst d_HD_size_6 ki_4 ?_)
    refine a_go (by decide) (v_callS d_HD_size_7 rfl (mm_spl 3 rfl) rfl (Nat.le_of_ble_eq_true rfl) ?_)
    refine (i_numberAt rfl (by decide) ?_)
    refine a_go (by decide) (v_l2i d_HD_size_10 ?_)
    refine a_go (by decide) (v_ireturn d_HD_size_11 rfl rfl ?_)
    exact mm_fiV hk rfl
  · intro as x K _ k pc lv x' h
    cases h
-- TwoSlots$Header.key()I
def e_hs_key (x : mm_S) : Int32 :=
  e_byteAt 64 3 (12 : Int32) x
def S_hs_key : mm_P := fun as x K => as = [.ref 7] ∧ K (some (.int (e_hs_key x))) x
theorem i_hs_key {x : mm_S} {K : mm_K} (hk : K (some (.int (e_hs_key x))) x) : S_hs_key [.ref 7] x K := ⟨rfl, hk⟩
def G_hs_key : mm_G := (FT_HD, CI_HD, CJ_HD, mm_tb [(39, 2, S_byteAt)], mm_tb [], none)
def rm_hs_key : Room := { frames := 1, cells := 0, slots := 0, locals := 21 }
set_option maxRecDepth 10000 in
theorem c_hs_key (l : Launch) : mm_Con l NW CL TB LC y_HD_key b_HD_key 1 (some .int) rm_hs_key S_hs_key := by
  refine mm_con G_hs_key [] (fun _ _ _ _ _ _ _ => False) (by decide +kernel) tb_good LC_u nw_nest ?_ rfl ft_HD ci_HD cj_HD ?_ ?_ ?_ ?_
  · rintro as x K ⟨rfl, -⟩
    exact Nat.le_of_ble_eq_true rfl
  · exact mm_tb_e (List.forall_mem_cons.mpr ⟨mm_cst_i (c_byteAt l) (mm_cb_i rfl rfl (by decide) (by decide) tc_TS_byteAt ti_TS ⟨by decide, by decide, by decide +kernel⟩ (Or.inr ⟨_, tl_HD_39⟩)) ts_TS_byteAt, fun _ h => absurd h List.not_mem_nil⟩)
  · exact mm_tb_e (fun _ h => absurd h List.not_mem_nil)
  · rintro as x K ⟨rfl, hk⟩
    refine ⟨400, ?_⟩
    refine v_aload_n d_HD_key_0 rfl ?_
    refine a_go (by decide) (v_getR d_HD_key_1 rfl rfl rfl ?_)
    refine a_go (by decide) (v_bipush d_HD_key_4 kb_12 ?_)
    refine a_go (by decide) (v_callS d_HD_key_6 rfl (mm_spl 2 rfl) rfl (Nat.le_of_ble_eq_true rfl) ?_)
    refine (i_byteAt rfl ?_)
    refine a_go (by decide) (v_ireturn d_HD_key_9 rfl rfl ?_)
    exact mm_fiV hk rfl
  · intro as x K _ k pc lv x' h
    cases h
-- TwoSlots$Header.bodyDigest()J
def e_hs_bdigest (x : mm_S) : Int64 :=
  e_numberAt 64 3 (20 : Int32) (8 : Int32) x
def S_hs_bdigest : mm_P := fun as x K => as = [.ref 7] ∧ K (some (.long (e_hs_bdigest x))) x
theorem i_hs_bdigest {x : mm_S} {K : mm_K} (hk : K (some (.long (e_hs_bdigest x))) x) : S_hs_bdigest [.ref 7] x K := ⟨rfl, hk⟩
def G_hs_bdigest : mm_G := (FT_HD, CI_HD, CJ_HD, mm_tb [(35, 3, S_numberAt)], mm_tb [], none)
def rm_hs_bdigest : Room := { frames := 1, cells := 0, slots := 0, locals := 25 }
set_option maxRecDepth 10000 in
theorem c_hs_bdigest (l : Launch) : mm_Con l NW CL TB LC y_HD_bodyDigest b_HD_bodyDigest 1 (some .long) rm_hs_bdigest S_hs_bdigest := by
  refine mm_con G_hs_bdigest [] (fun _ _ _ _ _ _ _ => False) (by decide +kernel) tb_good LC_u nw_nest ?_ rfl ft_HD ci_HD cj_HD ?_ ?_ ?_ ?_
  · rintro as x K ⟨rfl, -⟩
    exact Nat.le_of_ble_eq_true rfl
  · exact mm_tb_e (List.forall_mem_cons.mpr ⟨mm_cst_i (c_numberAt l) (mm_cb_i rfl rfl (by decide) (by decide) tc_TS_numberAt ti_TS ⟨by decide, by decide, by decide +kernel⟩ (Or.inr ⟨_, tl_HD_35⟩)) ts_TS_numberAt, fun _ h => absurd h List.not_mem_nil⟩)
  · exact mm_tb_e (fun _ h => absurd h List.not_mem_nil)
  · rintro as x K ⟨rfl, hk⟩
    refine ⟨400, ?_⟩
    refine v_aload_n d_HD_bodyDigest_0 rfl ?_
    refine a_go (by decide) (v_getR d_HD_bodyDigest_1 rfl rfl rfl ?_)
    refine a_go (by decide) (v_bipush d_HD_bodyDigest_4 kb_20 ?_)
    refine a_go (by decide) (v_bipush d_HD_bodyDigest_6 kb_8 ?_)
    refine a_go (by decide) (v_callS d_HD_bodyDigest_8 rfl (mm_spl 3 rfl) rfl (Nat.le_of_ble_eq_true rfl) ?_)
    refine (i_numberAt rfl (by decide) ?_)
    refine a_go (by decide) (v_lreturn d_HD_bodyDigest_11 rfl ?_)
    exact mm_fiVl hk rfl
  · intro as x K _ k pc lv x' h
    cases h
-- TwoSlots$Header.compose(IIIJJ)V
def e_hs_compose (v0 : Int32) (v1 : Int32) (v2 : Int32) (v3 : Int64) (v4 : Int64) (x : mm_S) : mm_S :=
  let x1 := e_fill 64 3 (0 : Int32) x
  let x2 := e_putNumber 64 3 (0 : Int32) (4 : Int32) (1415008083 : Int64) x1
  let x3 := e_putNumber 64 3 (4 : Int32) (4 : Int32) (Int32.toInt64 v0) x2
  let x4 := e_putNumber 64 3 (8 : Int32) (4 : Int32) (Int32.toInt64 v1) x3
  let x5 := e_putByte 64 3 (12 : Int32) v2 x4
  let x6 := e_putNumber 64 3 (20 : Int32) (8 : Int32) v3 x5
  let x7 := e_putNumber 64 3 (56 : Int32) (8 : Int32) (e_digest v4 64 3 (0 : Int32) (56 : Int32) x6) x6
  x7
def S_hs_compose : mm_P := fun as x K => ∃ (v0 : Int32) (v1 : Int32) (v2 : Int32) (v3 : Int64) (v4 : Int64), as = [.ref 7, .int v0, .int v1, .int v2, .long v3, .long v4] ∧ K none (e_hs_compose v0 v1 v2 v3 v4 x)
theorem i_hs_compose {v0 : Int32} {v1 : Int32} {v2 : Int32} {v3 : Int64} {v4 : Int64} {x : mm_S} {K : mm_K} (hk : K none (e_hs_compose v0 v1 v2 v3 v4 x)) : S_hs_compose [.ref 7, .int v0, .int v1, .int v2, .long v3, .long v4] x K := ⟨_, _, _, _, _, rfl, hk⟩
def G_hs_compose : mm_G := (FT_HD, CI_HD, CJ_HD, mm_tb [(15, 2, (S_fill LC)), (23, 4, S_putNumber), (27, 3, S_putByte), (31, 4, S_digest)], mm_tb [], none)
def rm_hs_compose : Room := { frames := 2, cells := 0, slots := 0, locals := 50 }
set_option maxRecDepth 10000 in
theorem c_hs_compose (l : Launch) : mm_Con l NW CL TB LC y_HD_compose b_HD_compose 8 (none) rm_hs_compose S_hs_compose := by
  refine mm_con G_hs_compose [] (fun _ _ _ _ _ _ _ => False) (by decide +kernel) tb_good LC_u nw_nest ?_ rfl ft_HD ci_HD cj_HD ?_ ?_ ?_ ?_
  · rintro as x K ⟨v0, v1, v2, v3, v4, rfl, -⟩
    exact Nat.le_of_ble_eq_true rfl
  · exact mm_tb_e (List.forall_mem_cons.mpr ⟨mm_cst_i (c_fill LC LC_u LC_n l) (mm_cb_i rfl rfl (by decide) (by decide) tc_JA_fill ti_JA ⟨by decide, by decide, by decide +kernel⟩ (Or.inl tl_HD_15)) ts_JA_fill, List.forall_mem_cons.mpr ⟨mm_cst_i (c_putNumber l) (mm_cb_i rfl rfl (by decide) (by decide) tc_TS_putNumber ti_TS ⟨by decide, by decide, by decide +kernel⟩ (Or.inr ⟨_, tl_HD_23⟩)) ts_TS_putNumber, List.forall_mem_cons.mpr ⟨mm_cst_i (c_putByte l) (mm_cb_i rfl rfl (by decide) (by decide) tc_TS_putByte ti_TS ⟨by decide, by decide, by decide +kernel⟩ (Or.inr ⟨_, tl_HD_27⟩)) ts_TS_putByte, List.forall_mem_cons.mpr ⟨mm_cst_i (c_digest l) (mm_cb_i rfl rfl (by decide) (by decide) tc_TS_digest ti_TS ⟨by decide, by decide, by decide +kernel⟩ (Or.inr ⟨_, tl_HD_31⟩)) ts_TS_digest, fun _ h => absurd h List.not_mem_nil⟩⟩⟩⟩)
  · exact mm_tb_e (fun _ h => absurd h List.not_mem_nil)
  · rintro as x K ⟨v0, v1, v2, v3, v4, rfl, hk⟩
    refine ⟨400, ?_⟩
    refine v_aload_n d_HD_compose_0 rfl ?_
    refine a_go (by decide) (v_getR d_HD_compose_1 rfl rfl rfl ?_)
    refine a_go (by decide) (v_iconst d_HD_compose_4 ki_0 ?_)
    refine a_go (by decide) (v_callS d_HD_compose_5 rfl (mm_spl 2 rfl) rfl (Nat.le_of_ble_eq_true rfl) ?_)
    refine (i_fill rfl ?_)
    refine a_go (by decide) (v_aload_n d_HD_compose_8 rfl ?_)
    refine a_go (by decide) (v_getR d_HD_compose_9 rfl rfl rfl ?_)
    refine a_go (by decide) (v_iconst d_HD_compose_12 ki_0 ?_)
    refine a_go (by decide) (v_iconst d_HD_compose_13 ki_4 ?_)
    refine a_go (by decide) (v_ldc2 d_HD_compose_14 rfl ?_)
    refine a_go (by decide) (v_callS d_HD_compose_17 rfl (mm_spl 4 rfl) rfl (Nat.le_of_ble_eq_true rfl) ?_)
    refine (i_putNumber rfl ?_)
    refine a_go (by decide) (v_aload_n d_HD_compose_20 rfl ?_)
    refine a_go (by decide) (v_getR d_HD_compose_21 rfl rfl rfl ?_)
    refine a_go (by decide) (v_iconst d_HD_compose_24 ki_4 ?_)
    refine a_go (by decide) (v_iconst d_HD_compose_25 ki_4 ?_)
    refine a_go (by decide) (v_iload_n d_HD_compose_26 rfl ?_)
    refine a_go (by decide) (v_i2l d_HD_compose_27 ?_)
    refine a_go (by decide) (v_callS d_HD_compose_28 rfl (mm_spl 4 rfl) rfl (Nat.le_of_ble_eq_true rfl) ?_)
    refine (i_putNumber rfl ?_)
    refine a_go (by decide) (v_aload_n d_HD_compose_31 rfl ?_)
    refine a_go (by decide) (v_getR d_HD_compose_32 rfl rfl rfl ?_)
    refine a_go (by decide) (v_bipush d_HD_compose_35 kb_8 ?_)
    refine a_go (by decide) (v_iconst d_HD_compose_37 ki_4 ?_)
    refine a_go (by decide) (v_iload_n d_HD_compose_38 rfl ?_)
    refine a_go (by decide) (v_i2l d_HD_compose_39 ?_)
    refine a_go (by decide) (v_callS d_HD_compose_40 rfl (mm_spl 4 rfl) rfl (Nat.le_of_ble_eq_true rfl) ?_)
    refine (i_putNumber rfl ?_)
    refine a_go (by decide) (v_aload_n d_HD_compose_43 rfl ?_)
    refine a_go (by decide) (v_getR d_HD_compose_44 rfl rfl rfl ?_)
    refine a_go (by decide) (v_bipush d_HD_compose_47 kb_12 ?_)
    refine a_go (by decide) (v_iload_n d_HD_compose_49 rfl ?_)
    refine a_go (by decide) (v_callS d_HD_compose_50 rfl (mm_spl 3 rfl) rfl (Nat.le_of_ble_eq_true rfl) ?_)
    refine (i_putByte rfl ?_)
    refine a_go (by decide) (v_aload_n d_HD_compose_53 rfl ?_)
    refine a_go (by decide) (v_getR d_HD_compose_54 rfl rfl rfl ?_)
    refine a_go (by decide) (v_bipush d_HD_compose_57 kb_20 ?_)
    refine a_go (by decide) (v_bipush d_HD_compose_59 kb_8 ?_)
    refine a_go (by decide) (v_lload d_HD_compose_61 rfl ?_)
    refine a_go (by decide) (v_callS d_HD_compose_63 rfl (mm_spl 4 rfl) rfl (Nat.le_of_ble_eq_true rfl) ?_)
    refine (i_putNumber rfl ?_)
    refine a_go (by decide) (v_aload_n d_HD_compose_66 rfl ?_)
    refine a_go (by decide) (v_getR d_HD_compose_67 rfl rfl rfl ?_)
    refine a_go (by decide) (v_bipush d_HD_compose_70 kb_56 ?_)
    refine a_go (by decide) (v_bipush d_HD_compose_72 kb_8 ?_)
    refine a_go (by decide) (v_lload d_HD_compose_74 rfl ?_)
    refine a_go (by decide) (v_aload_n d_HD_compose_76 rfl ?_)
    refine a_go (by decide) (v_getR d_HD_compose_77 rfl rfl rfl ?_)
    refine a_go (by decide) (v_iconst d_HD_compose_80 ki_0 ?_)
    refine a_go (by decide) (v_bipush d_HD_compose_81 kb_56 ?_)
    refine a_go (by decide) (v_callS d_HD_compose_83 rfl (mm_spl 4 rfl) rfl (Nat.le_of_ble_eq_true rfl) ?_)
    refine (i_digest rfl ?_)
    refine a_go (by decide) (v_callS d_HD_compose_86 rfl (mm_spl 4 rfl) rfl (Nat.le_of_ble_eq_true rfl) ?_)
    refine (i_putNumber rfl ?_)
    refine a_go (by decide) (v_return d_HD_compose_89 rfl ?_)
    exact mm_fiS hk rfl
  · intro as x K _ k pc lv x' h
    cases h
-- TwoSlots$Header.isZero(II)Z
def l_hs_iszero_2 (k : Nat) (u2 : Int32) (u3 : Int32) (x : mm_S) : Int32 := match k with
  | 0 => 0
  | k + 1 =>
    if u2 ≤ u3 then
      (1 : Int32)
    else
      if (e_byteAt 64 3 u3 x) = (0 : Int32) then
        l_hs_iszero_2 (k) u2 (u3 + (1 : Int32)) x
      else
        (0 : Int32)
def e_hs_iszero (v0 : Int32) (v1 : Int32) (x : mm_S) : Int32 :=
  l_hs_iszero_2 (mm_fu v0 v1) v1 v0 x
def S_hs_iszero : mm_P := fun as x K => ∃ (v0 : Int32) (v1 : Int32), as = [.ref 7, .int v0, .int v1] ∧ K (some (.int (e_hs_iszero v0 v1 x))) x
theorem i_hs_iszero {v0 : Int32} {v1 : Int32} {x : mm_S} {K : mm_K} (hk : K (some (.int (e_hs_iszero v0 v1 x))) x) : S_hs_iszero [.ref 7, .int v0, .int v1] x K := ⟨_, _, rfl, hk⟩
def G_hs_iszero : mm_G := (FT_HD, CI_HD, CJ_HD, mm_tb [(39, 2, S_byteAt)], mm_tb [], none)
def rm_hs_iszero : Room := { frames := 1, cells := 0, slots := 0, locals := 21 }
abbrev Inv_hs_iszero : mm_K → List Value → mm_S → Nat → Nat → mm_V → mm_S → Prop := fun K _ _ k pc lv x => pc = 2 ∧ ∃ (u2 : Int32) (u3 : Int32), lv = [(0, .ref 7), (2, .int u2), (3, .int u3)] ∧ mm_ms u3 u2 < k ∧ K (some (.int (l_hs_iszero_2 k u2 u3 x))) x
set_option maxRecDepth 10000 in
theorem c_hs_iszero (l : Launch) : mm_Con l NW CL TB LC y_HD_isZero b_HD_isZero 4 (some .boolean) rm_hs_iszero S_hs_iszero := by
  refine mm_con G_hs_iszero [2] Inv_hs_iszero (by decide +kernel) tb_good LC_u nw_nest ?_ rfl ft_HD ci_HD cj_HD ?_ ?_ ?_ ?_
  · rintro as x K ⟨v0, v1, rfl, -⟩
    exact Nat.le_of_ble_eq_true rfl
  · exact mm_tb_e (List.forall_mem_cons.mpr ⟨mm_cst_i (c_byteAt l) (mm_cb_i rfl rfl (by decide) (by decide) tc_TS_byteAt ti_TS ⟨by decide, by decide, by decide +kernel⟩ (Or.inr ⟨_, tl_HD_39⟩)) ts_TS_byteAt, fun _ h => absurd h List.not_mem_nil⟩)
  · exact mm_tb_e (fun _ h => absurd h List.not_mem_nil)
  · rintro as x K ⟨v0, v1, rfl, hk⟩
    refine ⟨400, ?_⟩
    refine v_iload_n d_HD_isZero_0 rfl ?_
    refine a_go (by decide) (v_istore_n d_HD_isZero_1 (by decide) ?_)
    refine a_cut (by decide) ⟨rfl, _, [(0, _), (2, _), (3, _)], (mm_all_c rfl (mm_all_c rfl (mm_all_c rfl (mm_all_n)))), rfl, _, _, rfl, ?_, (mm_mvV hk rfl)⟩
    · exact mm_ent _ _
  · rintro as x0 K - k pc lv x - ⟨rfl, u2, u3, rfl, hm, hk⟩
    obtain ⟨k, rfl⟩ := mm_pos hm
    refine ⟨400, ?_⟩
    refine v_iload_n d_HD_isZero_2 rfl ?_
    refine a_go (by decide) (v_iload_n d_HD_isZero_3 rfl ?_)
    refine a_go (by decide) (v_icmp_ge d_HD_isZero_4 (t := 26) (by decide) (fun c1 => ?_) (fun c1 => ?_))
    · skip
      refine a_go (by decide) (v_iconst d_HD_isZero_26 ki_1 ?_)
      refine a_go (by decide) (v_zreturn d_HD_isZero_27 rfl (by decide) ?_)
      exact mm_fiV hk (mm_ifp c1 rfl)
    · skip
      refine a_go (by decide) (v_aload_n d_HD_isZero_7 rfl ?_)
      refine a_go (by decide) (v_getR d_HD_isZero_8 rfl rfl rfl ?_)
      refine a_go (by decide) (v_iload_n d_HD_isZero_11 rfl ?_)
      refine a_go (by decide) (v_callS d_HD_isZero_12 rfl (mm_spl 2 rfl) rfl (Nat.le_of_ble_eq_true rfl) ?_)
      refine (i_byteAt rfl ?_)
      refine a_go (by decide) (v_if_eq d_HD_isZero_15 (t := 20) (by decide) (fun c2 => ?_) (fun c2 => ?_))
      · skip
        refine a_go (by decide) (v_iinc d_HD_isZero_20 (by decide) rfl ki_1 ?_)
        refine a_go (by decide) (v_goto d_HD_isZero_23 (t := 2) (by decide) ?_)
        refine a_cut (by decide) ⟨rfl, _, [(0, _), (2, _), (3, _)], ?_, (mm_all_c rfl (mm_all_c rfl (mm_all_c rfl (mm_all_n)))), rfl, _, _, rfl, ?_, (mm_mvV hk (mm_ifn c1 (mm_ifp c2 rfl)))⟩
        · exact Nat.lt_succ_self _
        · exact mm_dec c1 hm
      · skip
        refine a_go (by decide) (v_iconst d_HD_isZero_18 ki_0 ?_)
        refine a_go (by decide) (v_zreturn d_HD_isZero_19 rfl (by decide) ?_)
        exact mm_fiV hk (mm_ifn c1 (mm_ifn c2 rfl))
-- TwoSlots$Header.hasForm()Z
def e_hs_form (x : mm_S) : Int32 :=
  if (Int64.toInt32 (e_numberAt 64 3 (0 : Int32) (4 : Int32) x)) = (1415008083 : Int32) then
    if (e_hs_size x) < (1 : Int32) then
      (0 : Int32)
    else
      if (30 : Int32) < (e_hs_size x) then
        (0 : Int32)
      else
        if (4 : Int32) ≤ (e_hs_key x) then
          (0 : Int32)
        else
          if (e_hs_iszero (13 : Int32) (20 : Int32) x) = (0 : Int32) then
            (0 : Int32)
          else
            if (e_hs_iszero (28 : Int32) (56 : Int32) x) = (0 : Int32) then
              (0 : Int32)
            else
              (1 : Int32)
  else
    (0 : Int32)
def S_hs_form : mm_P := fun as x K => as = [.ref 7] ∧ K (some (.int (e_hs_form x))) x
theorem i_hs_form {x : mm_S} {K : mm_K} (hk : K (some (.int (e_hs_form x))) x) : S_hs_form [.ref 7] x K := ⟨rfl, hk⟩
def G_hs_form : mm_G := (FT_HD, CI_HD, CJ_HD, mm_tb [(35, 3, S_numberAt)], mm_tb [(44, 1, 4, S_hs_size), (48, 1, 4, S_hs_key), (51, 3, 4, S_hs_iszero)], none)
def rm_hs_form : Room := { frames := 2, cells := 0, slots := 0, locals := 45 }
set_option maxRecDepth 10000 in
theorem c_hs_form (l : Launch) : mm_Con l NW CL TB LC y_HD_hasForm b_HD_hasForm 1 (some .boolean) rm_hs_form S_hs_form := by
  refine mm_con G_hs_form [] (fun _ _ _ _ _ _ _ => False) (by decide +kernel) tb_good LC_u nw_nest ?_ rfl ft_HD ci_HD cj_HD ?_ ?_ ?_ ?_
  · rintro as x K ⟨rfl, -⟩
    exact Nat.le_of_ble_eq_true rfl
  · exact mm_tb_e (List.forall_mem_cons.mpr ⟨mm_cst_i (c_numberAt l) (mm_cb_i rfl rfl (by decide) (by decide) tc_TS_numberAt ti_TS ⟨by decide, by decide, by decide +kernel⟩ (Or.inr ⟨_, tl_HD_35⟩)) ts_TS_numberAt, fun _ h => absurd h List.not_mem_nil⟩)
  · exact mm_tb_e (List.forall_mem_cons.mpr ⟨mm_cvt_i (c_hs_size l) (mm_cb_i rfl rfl (by decide) (by decide) tc_HD_size ti_HD ⟨by decide, by decide, by decide +kernel⟩ (Or.inl tl_HD_44)) rfl tv_HD_size tx_HD_size, List.forall_mem_cons.mpr ⟨mm_cvt_i (c_hs_key l) (mm_cb_i rfl rfl (by decide) (by decide) tc_HD_key ti_HD ⟨by decide, by decide, by decide +kernel⟩ (Or.inl tl_HD_48)) rfl tv_HD_key tx_HD_key, List.forall_mem_cons.mpr ⟨mm_cvt_i (c_hs_iszero l) (mm_cb_i rfl rfl (by decide) (by decide) tc_HD_isZero ti_HD ⟨by decide, by decide, by decide +kernel⟩ (Or.inl tl_HD_51)) rfl tv_HD_isZero tx_HD_isZero, fun _ h => absurd h List.not_mem_nil⟩⟩⟩)
  · rintro as x K ⟨rfl, hk⟩
    refine ⟨400, ?_⟩
    refine v_aload_n d_HD_hasForm_0 rfl ?_
    refine a_go (by decide) (v_getR d_HD_hasForm_1 rfl rfl rfl ?_)
    refine a_go (by decide) (v_iconst d_HD_hasForm_4 ki_0 ?_)
    refine a_go (by decide) (v_iconst d_HD_hasForm_5 ki_4 ?_)
    refine a_go (by decide) (v_callS d_HD_hasForm_6 rfl (mm_spl 3 rfl) rfl (Nat.le_of_ble_eq_true rfl) ?_)
    refine (i_numberAt rfl (by decide) ?_)
    refine a_go (by decide) (v_l2i d_HD_hasForm_9 ?_)
    refine a_go (by decide) (v_ldc d_HD_hasForm_10 rfl ?_)
    refine a_go (by decide) (v_icmp_ne d_HD_hasForm_12 (t := 66) (by decide) (fun c1 => ?_) (fun c1 => ?_))
    · skip
      refine a_go (by decide) (v_iconst d_HD_hasForm_66 ki_0 ?_)
      refine a_go (by decide) (v_zreturn d_HD_hasForm_67 rfl (by decide) ?_)
      exact mm_fiV hk (mm_ifn c1 rfl)
    · skip
      refine a_go (by decide) (v_aload_n d_HD_hasForm_15 rfl ?_)
      refine a_go (by decide) (v_callV d_HD_hasForm_16 rfl (mm_spl 1 rfl) rfl (Nat.le_of_ble_eq_true rfl) rfl ?_)
      refine (i_hs_size ?_)
      refine a_go (by decide) (v_iconst d_HD_hasForm_19 ki_1 ?_)
      refine a_go (by decide) (v_icmp_lt d_HD_hasForm_20 (t := 66) (by decide) (fun c2 => ?_) (fun c2 => ?_))
      · skip
        refine a_go (by decide) (v_iconst d_HD_hasForm_66 ki_0 ?_)
        refine a_go (by decide) (v_zreturn d_HD_hasForm_67 rfl (by decide) ?_)
        exact mm_fiV hk (mm_ifp c1 (mm_ifp c2 rfl))
      · skip
        refine a_go (by decide) (v_aload_n d_HD_hasForm_23 rfl ?_)
        refine a_go (by decide) (v_callV d_HD_hasForm_24 rfl (mm_spl 1 rfl) rfl (Nat.le_of_ble_eq_true rfl) rfl ?_)
        refine (i_hs_size ?_)
        refine a_go (by decide) (v_bipush d_HD_hasForm_27 kb_30 ?_)
        refine a_go (by decide) (v_icmp_gt d_HD_hasForm_29 (t := 66) (by decide) (fun c3 => ?_) (fun c3 => ?_))
        · skip
          refine a_go (by decide) (v_iconst d_HD_hasForm_66 ki_0 ?_)
          refine a_go (by decide) (v_zreturn d_HD_hasForm_67 rfl (by decide) ?_)
          exact mm_fiV hk (mm_ifp c1 (mm_ifn c2 (mm_ifp c3 rfl)))
        · skip
          refine a_go (by decide) (v_aload_n d_HD_hasForm_32 rfl ?_)
          refine a_go (by decide) (v_callV d_HD_hasForm_33 rfl (mm_spl 1 rfl) rfl (Nat.le_of_ble_eq_true rfl) rfl ?_)
          refine (i_hs_key ?_)
          refine a_go (by decide) (v_iconst d_HD_hasForm_36 ki_4 ?_)
          refine a_go (by decide) (v_icmp_ge d_HD_hasForm_37 (t := 66) (by decide) (fun c4 => ?_) (fun c4 => ?_))
          · skip
            refine a_go (by decide) (v_iconst d_HD_hasForm_66 ki_0 ?_)
            refine a_go (by decide) (v_zreturn d_HD_hasForm_67 rfl (by decide) ?_)
            exact mm_fiV hk (mm_ifp c1 (mm_ifn c2 (mm_ifn c3 (mm_ifp c4 rfl))))
          · skip
            refine a_go (by decide) (v_aload_n d_HD_hasForm_40 rfl ?_)
            refine a_go (by decide) (v_bipush d_HD_hasForm_41 kb_13 ?_)
            refine a_go (by decide) (v_bipush d_HD_hasForm_43 kb_20 ?_)
            refine a_go (by decide) (v_callV d_HD_hasForm_45 rfl (mm_spl 3 rfl) rfl (Nat.le_of_ble_eq_true rfl) rfl ?_)
            refine (i_hs_iszero ?_)
            refine a_go (by decide) (v_if_eq d_HD_hasForm_48 (t := 66) (by decide) (fun c5 => ?_) (fun c5 => ?_))
            · skip
              refine a_go (by decide) (v_iconst d_HD_hasForm_66 ki_0 ?_)
              refine a_go (by decide) (v_zreturn d_HD_hasForm_67 rfl (by decide) ?_)
              exact mm_fiV hk (mm_ifp c1 (mm_ifn c2 (mm_ifn c3 (mm_ifn c4 (mm_ifp c5 rfl)))))
            · skip
              refine a_go (by decide) (v_aload_n d_HD_hasForm_51 rfl ?_)
              refine a_go (by decide) (v_bipush d_HD_hasForm_52 kb_28 ?_)
              refine a_go (by decide) (v_bipush d_HD_hasForm_54 kb_56 ?_)
              refine a_go (by decide) (v_callV d_HD_hasForm_56 rfl (mm_spl 3 rfl) rfl (Nat.le_of_ble_eq_true rfl) rfl ?_)
              refine (i_hs_iszero ?_)
              refine a_go (by decide) (v_if_eq d_HD_hasForm_59 (t := 66) (by decide) (fun c6 => ?_) (fun c6 => ?_))
              · skip
                refine a_go (by decide) (v_iconst d_HD_hasForm_66 ki_0 ?_)
                refine a_go (by decide) (v_zreturn d_HD_hasForm_67 rfl (by decide) ?_)
                exact mm_fiV hk (mm_ifp c1 (mm_ifn c2 (mm_ifn c3 (mm_ifn c4 (mm_ifn c5 (mm_ifp c6 rfl))))))
              · skip
                refine a_go (by decide) (v_iconst d_HD_hasForm_62 ki_1 ?_)
                refine a_go (by decide) (v_goto d_HD_hasForm_63 (t := 67) (by decide) ?_)
                refine a_go (by decide) (v_zreturn d_HD_hasForm_67 rfl (by decide) ?_)
                exact mm_fiV hk (mm_ifp c1 (mm_ifn c2 (mm_ifn c3 (mm_ifn c4 (mm_ifn c5 (mm_ifn c6 rfl))))))
  · intro as x K _ k pc lv x' h
    cases h
-- TwoSlots$Header.isSealedWith(J)Z
def e_hs_sealed (v0 : Int64) (x : mm_S) : Int32 :=
  if (lg_cmp (e_numberAt 64 3 (56 : Int32) (8 : Int32) x) (e_digest v0 64 3 (0 : Int32) (56 : Int32) x)) = (0 : Int32) then
    (1 : Int32)
  else
    (0 : Int32)
def S_hs_sealed : mm_P := fun as x K => ∃ (v0 : Int64), as = [.ref 7, .long v0] ∧ K (some (.int (e_hs_sealed v0 x))) x
theorem i_hs_sealed {v0 : Int64} {x : mm_S} {K : mm_K} (hk : K (some (.int (e_hs_sealed v0 x))) x) : S_hs_sealed [.ref 7, .long v0] x K := ⟨_, rfl, hk⟩
def G_hs_sealed : mm_G := (FT_HD, CI_HD, CJ_HD, mm_tb [(35, 3, S_numberAt), (31, 4, S_digest)], mm_tb [], none)
def rm_hs_sealed : Room := { frames := 2, cells := 0, slots := 0, locals := 50 }
set_option maxRecDepth 10000 in
theorem c_hs_sealed (l : Launch) : mm_Con l NW CL TB LC y_HD_isSealedWith b_HD_isSealedWith 3 (some .boolean) rm_hs_sealed S_hs_sealed := by
  refine mm_con G_hs_sealed [] (fun _ _ _ _ _ _ _ => False) (by decide +kernel) tb_good LC_u nw_nest ?_ rfl ft_HD ci_HD cj_HD ?_ ?_ ?_ ?_
  · rintro as x K ⟨v0, rfl, -⟩
    exact Nat.le_of_ble_eq_true rfl
  · exact mm_tb_e (List.forall_mem_cons.mpr ⟨mm_cst_i (c_numberAt l) (mm_cb_i rfl rfl (by decide) (by decide) tc_TS_numberAt ti_TS ⟨by decide, by decide, by decide +kernel⟩ (Or.inr ⟨_, tl_HD_35⟩)) ts_TS_numberAt, List.forall_mem_cons.mpr ⟨mm_cst_i (c_digest l) (mm_cb_i rfl rfl (by decide) (by decide) tc_TS_digest ti_TS ⟨by decide, by decide, by decide +kernel⟩ (Or.inr ⟨_, tl_HD_31⟩)) ts_TS_digest, fun _ h => absurd h List.not_mem_nil⟩⟩)
  · exact mm_tb_e (fun _ h => absurd h List.not_mem_nil)
  · rintro as x K ⟨v0, rfl, hk⟩
    refine ⟨400, ?_⟩
    refine v_aload_n d_HD_isSealedWith_0 rfl ?_
    refine a_go (by decide) (v_getR d_HD_isSealedWith_1 rfl rfl rfl ?_)
    refine a_go (by decide) (v_bipush d_HD_isSealedWith_4 kb_56 ?_)
    refine a_go (by decide) (v_bipush d_HD_isSealedWith_6 kb_8 ?_)
    refine a_go (by decide) (v_callS d_HD_isSealedWith_8 rfl (mm_spl 3 rfl) rfl (Nat.le_of_ble_eq_true rfl) ?_)
    refine (i_numberAt rfl (by decide) ?_)
    refine a_go (by decide) (v_lload_n d_HD_isSealedWith_11 rfl ?_)
    refine a_go (by decide) (v_aload_n d_HD_isSealedWith_12 rfl ?_)
    refine a_go (by decide) (v_getR d_HD_isSealedWith_13 rfl rfl rfl ?_)
    refine a_go (by decide) (v_iconst d_HD_isSealedWith_16 ki_0 ?_)
    refine a_go (by decide) (v_bipush d_HD_isSealedWith_17 kb_56 ?_)
    refine a_go (by decide) (v_callS d_HD_isSealedWith_19 rfl (mm_spl 4 rfl) rfl (Nat.le_of_ble_eq_true rfl) ?_)
    refine (i_digest rfl ?_)
    refine a_go (by decide) (v_lcmp d_HD_isSealedWith_22 ?_)
    refine a_go (by decide) (v_if_ne d_HD_isSealedWith_23 (t := 30) (by decide) (fun c1 => ?_) (fun c1 => ?_))
    · skip
      refine a_go (by decide) (v_iconst d_HD_isSealedWith_30 ki_0 ?_)
      refine a_go (by decide) (v_zreturn d_HD_isSealedWith_31 rfl (by decide) ?_)
      exact mm_fiV hk (mm_ifn c1 rfl)
    · skip
      refine a_go (by decide) (v_iconst d_HD_isSealedWith_26 ki_1 ?_)
      refine a_go (by decide) (v_goto d_HD_isSealedWith_27 (t := 31) (by decide) ?_)
      refine a_go (by decide) (v_zreturn d_HD_isSealedWith_31 rfl (by decide) ?_)
      exact mm_fiV hk (mm_ifp c1 rfl)
  · intro as x K _ k pc lv x' h
    cases h
-- TwoSlots$Header.version()I
def e_ho_version (x : mm_S) : Int32 :=
  Int64.toInt32 (e_numberAt 64 4 (4 : Int32) (4 : Int32) x)
def S_ho_version : mm_P := fun as x K => as = [.ref 9] ∧ K (some (.int (e_ho_version x))) x
theorem i_ho_version {x : mm_S} {K : mm_K} (hk : K (some (.int (e_ho_version x))) x) : S_ho_version [.ref 9] x K := ⟨rfl, hk⟩
def G_ho_version : mm_G := (FT_HD, CI_HD, CJ_HD, mm_tb [(35, 3, S_numberAt)], mm_tb [], none)
def rm_ho_version : Room := { frames := 1, cells := 0, slots := 0, locals := 25 }
set_option maxRecDepth 10000 in
theorem c_ho_version (l : Launch) : mm_Con l NW CL TB LC y_HD_version b_HD_version 1 (some .int) rm_ho_version S_ho_version := by
  refine mm_con G_ho_version [] (fun _ _ _ _ _ _ _ => False) (by decide +kernel) tb_good LC_u nw_nest ?_ rfl ft_HD ci_HD cj_HD ?_ ?_ ?_ ?_
  · rintro as x K ⟨rfl, -⟩
    exact Nat.le_of_ble_eq_true rfl
  · exact mm_tb_e (List.forall_mem_cons.mpr ⟨mm_cst_i (c_numberAt l) (mm_cb_i rfl rfl (by decide) (by decide) tc_TS_numberAt ti_TS ⟨by decide, by decide, by decide +kernel⟩ (Or.inr ⟨_, tl_HD_35⟩)) ts_TS_numberAt, fun _ h => absurd h List.not_mem_nil⟩)
  · exact mm_tb_e (fun _ h => absurd h List.not_mem_nil)
  · rintro as x K ⟨rfl, hk⟩
    refine ⟨400, ?_⟩
    refine v_aload_n d_HD_version_0 rfl ?_
    refine a_go (by decide) (v_getR d_HD_version_1 rfl rfl rfl ?_)
    refine a_go (by decide) (v_iconst d_HD_version_4 ki_4 ?_)
    refine a_go (by decide) (v_iconst d_HD_version_5 ki_4 ?_)
    refine a_go (by decide) (v_callS d_HD_version_6 rfl (mm_spl 3 rfl) rfl (Nat.le_of_ble_eq_true rfl) ?_)
    refine (i_numberAt rfl (by decide) ?_)
    refine a_go (by decide) (v_l2i d_HD_version_9 ?_)
    refine a_go (by decide) (v_ireturn d_HD_version_10 rfl rfl ?_)
    exact mm_fiV hk rfl
  · intro as x K _ k pc lv x' h
    cases h
-- TwoSlots$Header.size()I
def e_ho_size (x : mm_S) : Int32 :=
  Int64.toInt32 (e_numberAt 64 4 (8 : Int32) (4 : Int32) x)
def S_ho_size : mm_P := fun as x K => as = [.ref 9] ∧ K (some (.int (e_ho_size x))) x
theorem i_ho_size {x : mm_S} {K : mm_K} (hk : K (some (.int (e_ho_size x))) x) : S_ho_size [.ref 9] x K := ⟨rfl, hk⟩
def G_ho_size : mm_G := (FT_HD, CI_HD, CJ_HD, mm_tb [(35, 3, S_numberAt)], mm_tb [], none)
def rm_ho_size : Room := { frames := 1, cells := 0, slots := 0, locals := 25 }
set_option maxRecDepth 10000 in
theorem c_ho_size (l : Launch) : mm_Con l NW CL TB LC y_HD_size b_HD_size 1 (some .int) rm_ho_size S_ho_size := by
  refine mm_con G_ho_size [] (fun _ _ _ _ _ _ _ => False) (by decide +kernel) tb_good LC_u nw_nest ?_ rfl ft_HD ci_HD cj_HD ?_ ?_ ?_ ?_
  · rintro as x K ⟨rfl, -⟩
    exact Nat.le_of_ble_eq_true rfl
  · exact mm_tb_e (List.forall_mem_cons.mpr ⟨mm_cst_i (c_numberAt l) (mm_cb_i rfl rfl (by decide) (by decide) tc_TS_numberAt ti_TS ⟨by decide, by decide, by decide +kernel⟩ (Or.inr ⟨_, tl_HD_35⟩)) ts_TS_numberAt, fun _ h => absurd h List.not_mem_nil⟩)
  · exact mm_tb_e (fun _ h => absurd h List.not_mem_nil)
  · rintro as x K ⟨rfl, hk⟩
    refine ⟨400, ?_⟩
    refine v_aload_n d_HD_size_0 rfl ?_
    refine a_go (by decide) (v_getR d_HD_size_1 rfl rfl rfl ?_)
    refine a_go (by decide) (v_bipush d_HD_size_4 kb_8 ?_)
    refine a_go (by decide) (v_iconst d_HD_size_6 ki_4 ?_)
    refine a_go (by decide) (v_callS d_HD_size_7 rfl (mm_spl 3 rfl) rfl (Nat.le_of_ble_eq_true rfl) ?_)
    refine (i_numberAt rfl (by decide) ?_)
    refine a_go (by decide) (v_l2i d_HD_size_10 ?_)
    refine a_go (by decide) (v_ireturn d_HD_size_11 rfl rfl ?_)
    exact mm_fiV hk rfl
  · intro as x K _ k pc lv x' h
    cases h
-- TwoSlots$Header.key()I
def e_ho_key (x : mm_S) : Int32 :=
  e_byteAt 64 4 (12 : Int32) x
def S_ho_key : mm_P := fun as x K => as = [.ref 9] ∧ K (some (.int (e_ho_key x))) x
theorem i_ho_key {x : mm_S} {K : mm_K} (hk : K (some (.int (e_ho_key x))) x) : S_ho_key [.ref 9] x K := ⟨rfl, hk⟩
def G_ho_key : mm_G := (FT_HD, CI_HD, CJ_HD, mm_tb [(39, 2, S_byteAt)], mm_tb [], none)
def rm_ho_key : Room := { frames := 1, cells := 0, slots := 0, locals := 21 }
set_option maxRecDepth 10000 in
theorem c_ho_key (l : Launch) : mm_Con l NW CL TB LC y_HD_key b_HD_key 1 (some .int) rm_ho_key S_ho_key := by
  refine mm_con G_ho_key [] (fun _ _ _ _ _ _ _ => False) (by decide +kernel) tb_good LC_u nw_nest ?_ rfl ft_HD ci_HD cj_HD ?_ ?_ ?_ ?_
  · rintro as x K ⟨rfl, -⟩
    exact Nat.le_of_ble_eq_true rfl
  · exact mm_tb_e (List.forall_mem_cons.mpr ⟨mm_cst_i (c_byteAt l) (mm_cb_i rfl rfl (by decide) (by decide) tc_TS_byteAt ti_TS ⟨by decide, by decide, by decide +kernel⟩ (Or.inr ⟨_, tl_HD_39⟩)) ts_TS_byteAt, fun _ h => absurd h List.not_mem_nil⟩)
  · exact mm_tb_e (fun _ h => absurd h List.not_mem_nil)
  · rintro as x K ⟨rfl, hk⟩
    refine ⟨400, ?_⟩
    refine v_aload_n d_HD_key_0 rfl ?_
    refine a_go (by decide) (v_getR d_HD_key_1 rfl rfl rfl ?_)
    refine a_go (by decide) (v_bipush d_HD_key_4 kb_12 ?_)
    refine a_go (by decide) (v_callS d_HD_key_6 rfl (mm_spl 2 rfl) rfl (Nat.le_of_ble_eq_true rfl) ?_)
    refine (i_byteAt rfl ?_)
    refine a_go (by decide) (v_ireturn d_HD_key_9 rfl rfl ?_)
    exact mm_fiV hk rfl
  · intro as x K _ k pc lv x' h
    cases h
-- TwoSlots$Header.bodyDigest()J
def e_ho_bdigest (x : mm_S) : Int64 :=
  e_numberAt 64 4 (20 : Int32) (8 : Int32) x
def S_ho_bdigest : mm_P := fun as x K => as = [.ref 9] ∧ K (some (.long (e_ho_bdigest x))) x
theorem i_ho_bdigest {x : mm_S} {K : mm_K} (hk : K (some (.long (e_ho_bdigest x))) x) : S_ho_bdigest [.ref 9] x K := ⟨rfl, hk⟩
def G_ho_bdigest : mm_G := (FT_HD, CI_HD, CJ_HD, mm_tb [(35, 3, S_numberAt)], mm_tb [], none)
def rm_ho_bdigest : Room := { frames := 1, cells := 0, slots := 0, locals := 25 }
set_option maxRecDepth 10000 in
theorem c_ho_bdigest (l : Launch) : mm_Con l NW CL TB LC y_HD_bodyDigest b_HD_bodyDigest 1 (some .long) rm_ho_bdigest S_ho_bdigest := by
  refine mm_con G_ho_bdigest [] (fun _ _ _ _ _ _ _ => False) (by decide +kernel) tb_good LC_u nw_nest ?_ rfl ft_HD ci_HD cj_HD ?_ ?_ ?_ ?_
  · rintro as x K ⟨rfl, -⟩
    exact Nat.le_of_ble_eq_true rfl
  · exact mm_tb_e (List.forall_mem_cons.mpr ⟨mm_cst_i (c_numberAt l) (mm_cb_i rfl rfl (by decide) (by decide) tc_TS_numberAt ti_TS ⟨by decide, by decide, by decide +kernel⟩ (Or.inr ⟨_, tl_HD_35⟩)) ts_TS_numberAt, fun _ h => absurd h List.not_mem_nil⟩)
  · exact mm_tb_e (fun _ h => absurd h List.not_mem_nil)
  · rintro as x K ⟨rfl, hk⟩
    refine ⟨400, ?_⟩
    refine v_aload_n d_HD_bodyDigest_0 rfl ?_
    refine a_go (by decide) (v_getR d_HD_bodyDigest_1 rfl rfl rfl ?_)
    refine a_go (by decide) (v_bipush d_HD_bodyDigest_4 kb_20 ?_)
    refine a_go (by decide) (v_bipush d_HD_bodyDigest_6 kb_8 ?_)
    refine a_go (by decide) (v_callS d_HD_bodyDigest_8 rfl (mm_spl 3 rfl) rfl (Nat.le_of_ble_eq_true rfl) ?_)
    refine (i_numberAt rfl (by decide) ?_)
    refine a_go (by decide) (v_lreturn d_HD_bodyDigest_11 rfl ?_)
    exact mm_fiVl hk rfl
  · intro as x K _ k pc lv x' h
    cases h
-- TwoSlots$Maker.layBlock(I[B)V
def l_layBlock_2 (k : Nat) (n1 : Nat) (r1 : Nat) (u1 : Int32) (u3 : Int32) (x : mm_S) : mm_S := match k with
  | 0 => x
  | k + 1 =>
    if (64 : Int32) ≤ u3 then
      x
    else
      let x1 := e_putByte n1 r1 u3 (((x.1 33) + ((5 : Int32) * u1)) + u3) x
      l_layBlock_2 (k) n1 r1 u1 (u3 + (1 : Int32)) x1
def e_layBlock (v0 : Int32) (n1 : Nat) (r1 : Nat) (x : mm_S) : mm_S :=
  l_layBlock_2 (mm_fu (0 : Int32) 64) n1 r1 v0 (0 : Int32) x
def S_layBlock : mm_P := fun as x K => ∃ (v0 : Int32) (a1 n1 r1 : Nat), as = [.ref 5, .int v0, .ref a1] ∧ mm_ar LC a1 = some (0, n1, r1) ∧ K none (e_layBlock v0 n1 r1 x)
theorem i_layBlock {v0 : Int32} {a1 n1 r1 : Nat} {x : mm_S} {K : mm_K} (ha1 : mm_ar LC a1 = some (0, n1, r1)) (hk : K none (e_layBlock v0 n1 r1 x)) : S_layBlock [.ref 5, .int v0, .ref a1] x K := ⟨_, _, _, _, rfl, ha1, hk⟩
def G_layBlock : mm_G := (FT_MK, CI_MK, CJ_MK, mm_tb [(24, 3, S_putByte)], mm_tb [], none)
def rm_layBlock : Room := { frames := 1, cells := 0, slots := 0, locals := 22 }
abbrev Inv_layBlock : mm_K → List Value → mm_S → Nat → Nat → mm_V → mm_S → Prop := fun K _ _ k pc lv x => pc = 2 ∧ ∃ (a1 n1 r1 : Nat) (u1 : Int32) (u3 : Int32), lv = [(0, .ref 5), (1, .int u1), (2, .ref a1), (3, .int u3)] ∧ mm_ar LC a1 = some (0, n1, r1) ∧ mm_ms u3 64 < k ∧ K none (l_layBlock_2 k n1 r1 u1 u3 x)
set_option maxRecDepth 10000 in
theorem c_layBlock (l : Launch) : mm_Con l NW CL TB LC y_MK_layBlock b_MK_layBlock 4 (none) rm_layBlock S_layBlock := by
  refine mm_con G_layBlock [2] Inv_layBlock (by decide +kernel) tb_good LC_u nw_nest ?_ rfl ft_MK ci_MK cj_MK ?_ ?_ ?_ ?_
  · rintro as x K ⟨v0, a1, n1, r1, rfl, -⟩
    exact Nat.le_of_ble_eq_true rfl
  · exact mm_tb_e (List.forall_mem_cons.mpr ⟨mm_cst_i (c_putByte l) (mm_cb_i rfl rfl (by decide) (by decide) tc_TS_putByte ti_TS ⟨by decide, by decide, by decide +kernel⟩ (Or.inr ⟨_, tl_MK_24⟩)) ts_TS_putByte, fun _ h => absurd h List.not_mem_nil⟩)
  · exact mm_tb_e (fun _ h => absurd h List.not_mem_nil)
  · rintro as x K ⟨v0, a1, n1, r1, rfl, ha1, hk⟩
    refine ⟨400, ?_⟩
    refine v_iconst d_MK_layBlock_0 ki_0 ?_
    refine a_go (by decide) (v_istore_n d_MK_layBlock_1 (by decide) ?_)
    refine a_cut (by decide) ⟨rfl, _, [(0, _), (1, _), (2, _), (3, _)], (mm_all_c rfl (mm_all_c rfl (mm_all_c rfl (mm_all_c rfl (mm_all_n))))), rfl, _, _, _, _, _, rfl, ha1, ?_, (mm_mvS hk rfl)⟩
    · exact mm_ent _ _
  · rintro as x0 K - k pc lv x - ⟨rfl, a1, n1, r1, u1, u3, rfl, ha1, hm, hk⟩
    obtain ⟨k, rfl⟩ := mm_pos hm
    refine ⟨400, ?_⟩
    refine v_iload_n d_MK_layBlock_2 rfl ?_
    refine a_go (by decide) (v_bipush d_MK_layBlock_3 kb_64 ?_)
    refine a_go (by decide) (v_icmp_ge d_MK_layBlock_5 (t := 29) (by decide) (fun c1 => ?_) (fun c1 => ?_))
    · skip
      refine a_go (by decide) (v_return d_MK_layBlock_29 rfl ?_)
      exact mm_fiS hk (mm_ifp c1 rfl)
    · skip
      refine a_go (by decide) (v_aload_n d_MK_layBlock_8 rfl ?_)
      refine a_go (by decide) (v_iload_n d_MK_layBlock_9 rfl ?_)
      refine a_go (by decide) (v_aload_n d_MK_layBlock_10 rfl ?_)
      refine a_go (by decide) (v_getI d_MK_layBlock_11 rfl rfl rfl ?_)
      refine a_go (by decide) (v_iconst d_MK_layBlock_14 ki_5 ?_)
      refine a_go (by decide) (v_iload_n d_MK_layBlock_15 rfl ?_)
      refine a_go (by decide) (v_imul d_MK_layBlock_16 ?_)
      refine a_go (by decide) (v_iadd d_MK_layBlock_17 ?_)
      refine a_go (by decide) (v_iload_n d_MK_layBlock_18 rfl ?_)
      refine a_go (by decide) (v_iadd d_MK_layBlock_19 ?_)
      refine a_go (by decide) (v_callS d_MK_layBlock_20 rfl (mm_spl 3 rfl) rfl (Nat.le_of_ble_eq_true rfl) ?_)
      refine (i_putByte ha1 ?_)
      refine a_go (by decide) (v_iinc d_MK_layBlock_23 (by decide) rfl ki_1 ?_)
      refine a_go (by decide) (v_goto d_MK_layBlock_26 (t := 2) (by decide) ?_)
      refine a_cut (by decide) ⟨rfl, _, [(0, _), (1, _), (2, _), (3, _)], ?_, (mm_all_c rfl (mm_all_c rfl (mm_all_c rfl (mm_all_c rfl (mm_all_n))))), rfl, _, _, _, _, _, rfl, ha1, ?_, (mm_mvS hk (mm_ifn c1 rfl))⟩
      · exact Nat.lt_succ_self _
      · exact mm_dec c1 hm
theorem l_layBlock_1 (k : Nat) : ∀ (n : Nat) (r : Nat) (a : Int32) (i : Int32) (x : mm_S), (l_layBlock_2 k n r a i x).1 = x.1 := by
  induction k with
  | zero => intros; rfl
  | succ k ih =>
    intro n r a i x
    simp only [l_layBlock_2]
    split
    · rfl
    · rw [ih, e_putByte_1]
theorem e_layBlock_1 (v : Int32) (n r : Nat) (x : mm_S) : (e_layBlock v n r x).1 = x.1 := by
  simp only [e_layBlock, l_layBlock_1]
-- TwoSlots$Maker.bodyDigest([B)J
def l_mbdigest_11 (k : Nat) (n0 : Nat) (r0 : Nat) (u2 : Int64) (u4 : Int32) (x : mm_S) : Int64 × mm_S := match k with
  | 0 => (0, x)
  | k + 1 =>
    if (x.1 31) ≤ u4 then
      (u2, x)
    else
      let x2 := e_layBlock u4 n0 r0 x
      let y3 := e_digest u2 n0 r0 (0 : Int32) (64 : Int32) x2
      l_mbdigest_11 (k) n0 r0 y3 (u4 + (1 : Int32)) x2
def e_mbdigest (n0 : Nat) (r0 : Nat) (x : mm_S) : Int64 × mm_S :=
  let y1 := e_wos (x.1 30) x
  l_mbdigest_11 (mm_fu (0 : Int32) (x.1 31)) n0 r0 y1 (0 : Int32) x
def S_mbdigest : mm_P := fun as x K => ∃ (a0 n0 r0 : Nat), as = [.ref 5, .ref a0] ∧ mm_ar LC a0 = some (0, n0, r0) ∧ K (some (.long (e_mbdigest n0 r0 x).1)) (e_mbdigest n0 r0 x).2
theorem i_mbdigest {a0 n0 r0 : Nat} {x : mm_S} {K : mm_K} (ha0 : mm_ar LC a0 = some (0, n0, r0)) (hk : K (some (.long (e_mbdigest n0 r0 x).1)) (e_mbdigest n0 r0 x).2) : S_mbdigest [.ref 5, .ref a0] x K := ⟨_, _, _, rfl, ha0, hk⟩
def G_mbdigest : mm_G := (FT_MK, CI_MK, CJ_MK, mm_tb [(28, 1, S_wos), (36, 4, S_digest)], mm_tb [(32, 3, 3, S_layBlock)], none)
def rm_mbdigest : Room := { frames := 2, cells := 0, slots := 0, locals := 50 }
abbrev Inv_mbdigest : mm_K → List Value → mm_S → Nat → Nat → mm_V → mm_S → Prop := fun K _ _ k pc lv x => pc = 11 ∧ ∃ (a0 n0 r0 : Nat) (u2 : Int64) (u4 : Int32), lv = [(0, .ref 5), (1, .ref a0), (2, .long u2), (4, .int u4)] ∧ mm_ar LC a0 = some (0, n0, r0) ∧ mm_ms u4 (x.1 31) < k ∧ K (some (.long (l_mbdigest_11 k n0 r0 u2 u4 x).1)) (l_mbdigest_11 k n0 r0 u2 u4 x).2
set_option maxRecDepth 10000 in
theorem c_mbdigest (l : Launch) : mm_Con l NW CL TB LC y_MK_bodyDigest b_MK_bodyDigest 5 (some .long) rm_mbdigest S_mbdigest := by
  refine mm_con G_mbdigest [11] Inv_mbdigest (by decide +kernel) tb_good LC_u nw_nest ?_ rfl ft_MK ci_MK cj_MK ?_ ?_ ?_ ?_
  · rintro as x K ⟨a0, n0, r0, rfl, -⟩
    exact Nat.le_of_ble_eq_true rfl
  · exact mm_tb_e (List.forall_mem_cons.mpr ⟨mm_cst_i (c_wos l) (mm_cb_i rfl rfl (by decide) (by decide) tc_TS_withoutSign ti_TS ⟨by decide, by decide, by decide +kernel⟩ (Or.inr ⟨_, tl_MK_28⟩)) ts_TS_withoutSign, List.forall_mem_cons.mpr ⟨mm_cst_i (c_digest l) (mm_cb_i rfl rfl (by decide) (by decide) tc_TS_digest ti_TS ⟨by decide, by decide, by decide +kernel⟩ (Or.inr ⟨_, tl_MK_36⟩)) ts_TS_digest, fun _ h => absurd h List.not_mem_nil⟩⟩)
  · exact mm_tb_e (List.forall_mem_cons.mpr ⟨mm_cvt_i (c_layBlock l) (mm_cb_i rfl rfl (by decide) (by decide) tc_MK_layBlock ti_MK ⟨by decide, by decide, by decide +kernel⟩ (Or.inl tl_MK_32)) rfl tv_MK_layBlock tx_MK_layBlock, fun _ h => absurd h List.not_mem_nil⟩)
  · rintro as x K ⟨a0, n0, r0, rfl, ha0, hk⟩
    refine ⟨400, ?_⟩
    refine v_aload_n d_MK_bodyDigest_0 rfl ?_
    refine a_go (by decide) (v_getI d_MK_bodyDigest_1 rfl rfl rfl ?_)
    refine a_go (by decide) (v_callS d_MK_bodyDigest_4 rfl (mm_spl 1 rfl) rfl (Nat.le_of_ble_eq_true rfl) ?_)
    refine (i_wos ?_)
    refine a_go (by decide) (v_lstore_n d_MK_bodyDigest_7 (by decide) ?_)
    refine a_go (by decide) (v_iconst d_MK_bodyDigest_8 ki_0 ?_)
    refine a_go (by decide) (v_istore d_MK_bodyDigest_9 (by decide) ?_)
    refine a_cut (by decide) ⟨rfl, _, [(0, _), (1, _), (2, _), (4, _)], (mm_all_c rfl (mm_all_c rfl (mm_all_c rfl (mm_all_c rfl (mm_all_n))))), rfl, _, _, _, _, _, rfl, ha0, ?_, (mm_mvVSl hk rfl)⟩
    · exact mm_ent _ _
  · rintro as x0 K - k pc lv x - ⟨rfl, a0, n0, r0, u2, u4, rfl, ha0, hm, hk⟩
    obtain ⟨k, rfl⟩ := mm_pos hm
    refine ⟨400, ?_⟩
    refine v_iload d_MK_bodyDigest_11 rfl ?_
    refine a_go (by decide) (v_aload_n d_MK_bodyDigest_13 rfl ?_)
    refine a_go (by decide) (v_getI d_MK_bodyDigest_14 rfl rfl rfl ?_)
    refine a_go (by decide) (v_icmp_ge d_MK_bodyDigest_17 (t := 42) (by decide) (fun c1 => ?_) (fun c1 => ?_))
    · skip
      refine a_go (by decide) (v_lload_n d_MK_bodyDigest_42 rfl ?_)
      refine a_go (by decide) (v_lreturn d_MK_bodyDigest_43 rfl ?_)
      exact mm_fiVSl hk (mm_ifp c1 rfl)
    · skip
      refine a_go (by decide) (v_aload_n d_MK_bodyDigest_20 rfl ?_)
      refine a_go (by decide) (v_iload d_MK_bodyDigest_21 rfl ?_)
      refine a_go (by decide) (v_aload_n d_MK_bodyDigest_23 rfl ?_)
      refine a_go (by decide) (v_callV d_MK_bodyDigest_24 rfl (mm_spl 3 rfl) rfl (Nat.le_of_ble_eq_true rfl) rfl ?_)
      refine (i_layBlock ha0 ?_)
      refine a_go (by decide) (v_lload_n d_MK_bodyDigest_27 rfl ?_)
      refine a_go (by decide) (v_aload_n d_MK_bodyDigest_28 rfl ?_)
      refine a_go (by decide) (v_iconst d_MK_bodyDigest_29 ki_0 ?_)
      refine a_go (by decide) (v_bipush d_MK_bodyDigest_30 kb_64 ?_)
      refine a_go (by decide) (v_callS d_MK_bodyDigest_32 rfl (mm_spl 4 rfl) rfl (Nat.le_of_ble_eq_true rfl) ?_)
      refine (i_digest ha0 ?_)
      refine a_go (by decide) (v_lstore_n d_MK_bodyDigest_35 (by decide) ?_)
      refine a_go (by decide) (v_iinc d_MK_bodyDigest_36 (by decide) rfl ki_1 ?_)
      refine a_go (by decide) (v_goto d_MK_bodyDigest_39 (t := 11) (by decide) ?_)
      refine a_cut (by decide) ⟨rfl, _, [(0, _), (1, _), (2, _), (4, _)], ?_, (mm_all_c rfl (mm_all_c rfl (mm_all_c rfl (mm_all_c rfl (mm_all_n))))), rfl, _, _, _, _, _, rfl, ha0, ?_, (mm_mvVSl hk (mm_ifn c1 rfl))⟩
      · exact Nat.lt_succ_self _
      · rw [e_layBlock_1]; exact mm_dec c1 hm
