-- TwoSlotsModel.in(JJJ)Z
def e_m_in (v0 : Int64) (v1 : Int64) (v2 : Int64) (x : mm_S) : Int32 :=
  if (0 : Int32) < (lg_cmp v1 v0) then
    (0 : Int32)
  else
    if (0 : Int32) < (lg_cmp v0 v2) then
      (0 : Int32)
    else
      (1 : Int32)
def S_m_in : mm_P := fun as x K => ∃ (v0 : Int64) (v1 : Int64) (v2 : Int64), as = [.long v0, .long v1, .long v2] ∧ K (some (.int (e_m_in v0 v1 v2 x))) x
theorem i_m_in {v0 : Int64} {v1 : Int64} {v2 : Int64} {x : mm_S} {K : mm_K} (hk : K (some (.int (e_m_in v0 v1 v2 x))) x) : S_m_in [.long v0, .long v1, .long v2] x K := ⟨_, _, _, rfl, hk⟩
def G_m_in : mm_G := (FT_MO, CI_MO, CJ_MO, mm_tb [], mm_tb [], none)
def rm_m_in : Room := { frames := 0, cells := 0, slots := 0, locals := 0 }
set_option maxHeartbeats 40000000 in
set_option maxRecDepth 10000 in
theorem c_m_in (l : Launch) : mm_Con l NW CL TB LL y_MO_in b_MO_in 6 (some .boolean) rm_m_in S_m_in := by
  refine mm_con G_m_in [] (fun _ _ _ _ _ _ _ => False) (by decide +kernel) tb_good LL_u nw_nest ?_ rfl ft_MO ci_MO cj_MO ?_ ?_ ?_ ?_
  · rintro as x K ⟨v0, v1, v2, rfl, -⟩
    exact Nat.le_of_ble_eq_true rfl
  · exact mm_tb_e (fun _ h => absurd h List.not_mem_nil)
  · exact mm_tb_e (fun _ h => absurd h List.not_mem_nil)
  · rintro as x K ⟨v0, v1, v2, rfl, hk⟩
    refine ⟨400, ?_⟩
    refine v_lload_n d_MO_in_0 rfl ?_
    refine a_go (by decide) (v_lload_n d_MO_in_1 rfl ?_)
    refine a_go (by decide) (v_lcmp d_MO_in_2 ?_)
    refine a_go (by decide) (v_if_gt d_MO_in_3 (t := 17) (by decide) (fun c1 => ?_) (fun c1 => ?_))
    · skip
      refine a_go (by decide) (v_iconst d_MO_in_17 ki_0 ?_)
      refine a_go (by decide) (v_zreturn d_MO_in_18 rfl (by decide) ?_)
      exact mm_fiV hk (mm_ifp c1 rfl)
    · skip
      refine a_go (by decide) (v_lload_n d_MO_in_6 rfl ?_)
      refine a_go (by decide) (v_lload d_MO_in_7 rfl ?_)
      refine a_go (by decide) (v_lcmp d_MO_in_9 ?_)
      refine a_go (by decide) (v_if_gt d_MO_in_10 (t := 17) (by decide) (fun c2 => ?_) (fun c2 => ?_))
      · skip
        refine a_go (by decide) (v_iconst d_MO_in_17 ki_0 ?_)
        refine a_go (by decide) (v_zreturn d_MO_in_18 rfl (by decide) ?_)
        exact mm_fiV hk (mm_ifn c1 (mm_ifp c2 rfl))
      · skip
        refine a_go (by decide) (v_iconst d_MO_in_13 ki_1 ?_)
        refine a_go (by decide) (v_goto d_MO_in_14 (t := 18) (by decide) ?_)
        refine a_go (by decide) (v_zreturn d_MO_in_18 rfl (by decide) ?_)
        exact mm_fiV hk (mm_ifn c1 (mm_ifn c2 rfl))
  · intro as x K _ k pc lv x' h
    cases h
-- TwoSlotsModel.digested(JI)J
def e_m_digested (v0 : Int64) (v1 : Int32) (x : mm_S) : Int64 :=
  let y1 := v0 ^^^ (Int32.toInt64 v1)
  ((y1 <<< (Int32.toInt64 (13 : Int32) &&& 63)) ||| ((Int64.toUInt64 y1 >>> (Int64.toUInt64 (Int32.toInt64 (51 : Int32)) &&& Int64.toUInt64 63)).toInt64)) * (-7046029254386353131 : Int64)
def S_m_digested : mm_P := fun as x K => ∃ (v0 : Int64) (v1 : Int32), as = [.long v0, .int v1] ∧ K (some (.long (e_m_digested v0 v1 x))) x
theorem i_m_digested {v0 : Int64} {v1 : Int32} {x : mm_S} {K : mm_K} (hk : K (some (.long (e_m_digested v0 v1 x))) x) : S_m_digested [.long v0, .int v1] x K := ⟨_, _, rfl, hk⟩
def G_m_digested : mm_G := (FT_MO, CI_MO, CJ_MO, mm_tb [], mm_tb [], none)
def rm_m_digested : Room := { frames := 0, cells := 0, slots := 0, locals := 0 }
set_option maxHeartbeats 40000000 in
set_option maxRecDepth 10000 in
theorem c_m_digested (l : Launch) : mm_Con l NW CL TB LL y_MO_digested b_MO_digested 5 (some .long) rm_m_digested S_m_digested := by
  refine mm_con G_m_digested [] (fun _ _ _ _ _ _ _ => False) (by decide +kernel) tb_good LL_u nw_nest ?_ rfl ft_MO ci_MO cj_MO ?_ ?_ ?_ ?_
  · rintro as x K ⟨v0, v1, rfl, -⟩
    exact Nat.le_of_ble_eq_true rfl
  · exact mm_tb_e (fun _ h => absurd h List.not_mem_nil)
  · exact mm_tb_e (fun _ h => absurd h List.not_mem_nil)
  · rintro as x K ⟨v0, v1, rfl, hk⟩
    refine ⟨400, ?_⟩
    refine v_lload_n d_MO_digested_0 rfl ?_
    refine a_go (by decide) (v_iload_n d_MO_digested_1 rfl ?_)
    refine a_go (by decide) (v_i2l d_MO_digested_2 ?_)
    refine a_go (by decide) (v_lxor d_MO_digested_3 ?_)
    refine a_go (by decide) (v_lstore_n d_MO_digested_4 (by decide) ?_)
    refine a_go (by decide) (v_lload_n d_MO_digested_5 rfl ?_)
    refine a_go (by decide) (v_bipush d_MO_digested_6 kb_13 ?_)
    refine a_go (by decide) (v_lshl d_MO_digested_8 ?_)
    refine a_go (by decide) (v_lload_n d_MO_digested_9 rfl ?_)
    refine a_go (by decide) (v_bipush d_MO_digested_10 kb_51 ?_)
    refine a_go (by decide) (v_lushr d_MO_digested_12 ?_)
    refine a_go (by decide) (v_lor d_MO_digested_13 ?_)
    refine a_go (by decide) (v_ldc2 d_MO_digested_14 rfl ?_)
    refine a_go (by decide) (v_lmul d_MO_digested_17 ?_)
    refine a_go (by decide) (v_lreturn d_MO_digested_18 rfl ?_)
    exact mm_fiVl hk rfl
  · intro as x K _ k pc lv x' h
    cases h
-- TwoSlotsModel.numberOf(I)J
def e_m_numberOf (v0 : Int32) (x : mm_S) : Int64 :=
  (x.2.1 10) ^^^ ((Int32.toInt64 v0) * (1099511628211 : Int64))
def S_m_numberOf : mm_P := fun as x K => ∃ (v0 : Int32), as = [.ref 11, .int v0] ∧ K (some (.long (e_m_numberOf v0 x))) x
theorem i_m_numberOf {v0 : Int32} {x : mm_S} {K : mm_K} (hk : K (some (.long (e_m_numberOf v0 x))) x) : S_m_numberOf [.ref 11, .int v0] x K := ⟨_, rfl, hk⟩
def G_m_numberOf : mm_G := (FT_MO, CI_MO, CJ_MO, mm_tb [], mm_tb [], none)
def rm_m_numberOf : Room := { frames := 0, cells := 0, slots := 0, locals := 0 }
set_option maxHeartbeats 40000000 in
set_option maxRecDepth 10000 in
theorem c_m_numberOf (l : Launch) : mm_Con l NW CL TB LL y_MO_numberOf b_MO_numberOf 2 (some .long) rm_m_numberOf S_m_numberOf := by
  refine mm_con G_m_numberOf [] (fun _ _ _ _ _ _ _ => False) (by decide +kernel) tb_good LL_u nw_nest ?_ rfl ft_MO ci_MO cj_MO ?_ ?_ ?_ ?_
  · rintro as x K ⟨v0, rfl, -⟩
    exact Nat.le_of_ble_eq_true rfl
  · exact mm_tb_e (fun _ h => absurd h List.not_mem_nil)
  · exact mm_tb_e (fun _ h => absurd h List.not_mem_nil)
  · rintro as x K ⟨v0, rfl, hk⟩
    refine ⟨400, ?_⟩
    refine v_aload_n d_MO_numberOf_0 rfl ?_
    refine a_go (by decide) (v_getL d_MO_numberOf_1 rfl rfl rfl ?_)
    refine a_go (by decide) (v_iload_n d_MO_numberOf_4 rfl ?_)
    refine a_go (by decide) (v_i2l d_MO_numberOf_5 ?_)
    refine a_go (by decide) (v_ldc2 d_MO_numberOf_6 rfl ?_)
    refine a_go (by decide) (v_lmul d_MO_numberOf_9 ?_)
    refine a_go (by decide) (v_lxor d_MO_numberOf_10 ?_)
    refine a_go (by decide) (v_lreturn d_MO_numberOf_11 rfl ?_)
    exact mm_fiVl hk rfl
  · intro as x K _ k pc lv x' h
    cases h
-- TwoSlotsModel.number([IIJI)V
def l_m_number_3 (k : Nat) (n0 : Nat) (r0 : Nat) (u2 : Int32) (u3 : Int64) (u5 : Int32) (u6 : Int32) (x : mm_S) : mm_S := match k with
  | 0 => x
  | k + 1 =>
    if u5 ≤ u6 then
      x
    else
      let x1 := mm_setA x r0 (upd (x.2.2 r0) (Int32.toNatClampNeg (u2 + u6)) ((Int64.toInt32 (u3 >>> (Int32.toInt64 ((8 : Int32) * ((u5 - (1 : Int32)) - u6)) &&& 63))) &&& (255 : Int32)))
      l_m_number_3 (k) n0 r0 u2 u3 u5 (u6 + (1 : Int32)) x1
def okl_m_number_3 (k : Nat) (n0 : Nat) (r0 : Nat) (u2 : Int32) (u3 : Int64) (u5 : Int32) (u6 : Int32) (x : mm_S) : Prop := match k with
  | 0 => False
  | k + 1 => if u5 ≤ u6 then (True) else ((vp_in (u2 + u6) n0) ∧ (let x1 := mm_setA x r0 (upd (x.2.2 r0) (Int32.toNatClampNeg (u2 + u6)) ((Int64.toInt32 (u3 >>> (Int32.toInt64 ((8 : Int32) * ((u5 - (1 : Int32)) - u6)) &&& 63))) &&& (255 : Int32))); okl_m_number_3 (k) n0 r0 u2 u3 u5 (u6 + (1 : Int32)) x1))
def e_m_number (n0 : Nat) (r0 : Nat) (v1 : Int32) (v2 : Int64) (v3 : Int32) (x : mm_S) : mm_S :=
  l_m_number_3 (mm_fu (0 : Int32) v3) n0 r0 v1 v2 v3 (0 : Int32) x
def ok_m_number (n0 : Nat) (r0 : Nat) (v1 : Int32) (v2 : Int64) (v3 : Int32) (x : mm_S) : Prop := okl_m_number_3 (mm_fu (0 : Int32) v3) n0 r0 v1 v2 v3 (0 : Int32) x
def S_m_number : mm_P := fun as x K => ∃ (a0 n0 r0 : Nat) (v1 : Int32) (v2 : Int64) (v3 : Int32), as = [.ref 11, .ref a0, .int v1, .long v2, .int v3] ∧ mm_ar LL a0 = some (1, n0, r0) ∧ (ok_m_number n0 r0 v1 v2 v3 x) ∧ K none (e_m_number n0 r0 v1 v2 v3 x)
theorem i_m_number {a0 n0 r0 : Nat} {v1 : Int32} {v2 : Int64} {v3 : Int32} {x : mm_S} {K : mm_K} (ha0 : mm_ar LL a0 = some (1, n0, r0)) (hpre : (ok_m_number n0 r0 v1 v2 v3 x)) (hk : K none (e_m_number n0 r0 v1 v2 v3 x)) : S_m_number [.ref 11, .ref a0, .int v1, .long v2, .int v3] x K := ⟨_, _, _, _, _, _, rfl, ha0, hpre, hk⟩
def G_m_number : mm_G := (FT_MO, CI_MO, CJ_MO, mm_tb [], mm_tb [], none)
def rm_m_number : Room := { frames := 0, cells := 0, slots := 0, locals := 0 }
abbrev Inv_m_number : mm_K → List Value → mm_S → Nat → Nat → mm_V → mm_S → Prop := fun K _ _ k pc lv x => (pc = 3 ∧ ∃ (f : Nat) (a0 n0 r0 : Nat) (u2 : Int32) (u3 : Int64) (u5 : Int32) (u6 : Int32), k = f + 0 ∧ lv = [(1, .ref a0), (2, .int u2), (3, .long u3), (5, .int u5), (6, .int u6)] ∧ mm_ar LL a0 = some (1, n0, r0) ∧ okl_m_number_3 f n0 r0 u2 u3 u5 u6 x ∧ K none (l_m_number_3 f n0 r0 u2 u3 u5 u6 x))
set_option maxHeartbeats 40000000 in
set_option maxRecDepth 10000 in
theorem c_m_number (l : Launch) : mm_Con l NW CL TB LL y_MO_number b_MO_number 7 (none) rm_m_number S_m_number := by
  refine mm_con G_m_number [3] Inv_m_number (by decide +kernel) tb_good LL_u nw_nest ?_ rfl ft_MO ci_MO cj_MO ?_ ?_ ?_ ?_
  · rintro as x K ⟨a0, n0, r0, v1, v2, v3, rfl, -⟩
    exact Nat.le_of_ble_eq_true rfl
  · exact mm_tb_e (fun _ h => absurd h List.not_mem_nil)
  · exact mm_tb_e (fun _ h => absurd h List.not_mem_nil)
  · rintro as x K ⟨a0, n0, r0, v1, v2, v3, rfl, ha0, hok, hk⟩
    refine ⟨400, ?_⟩
    refine v_iconst d_MO_number_0 ki_0 ?_
    refine a_go (by decide) (v_istore d_MO_number_1 (by decide) ?_)
    refine a_cut (by decide) ⟨rfl, _, [(1, _), (2, _), (3, _), (5, _), (6, _)], (mm_all_c rfl (mm_all_c rfl (mm_all_c rfl (mm_all_c rfl (mm_all_c rfl (mm_all_n)))))), ⟨rfl, _, _, _, _, _, _, _, _, rfl, rfl, ha0, hok, (mm_mvS hk rfl)⟩⟩
  · rintro as x0 K - k pc lv x - hinv
    obtain ⟨rfl, f, a0, n0, r0, u2, u3, u5, u6, hkf, rfl, ha0, hok, hk⟩ := hinv
    cases f with
    | zero => exact False.elim hok
    | succ k =>
      subst hkf
      refine ⟨900, ?_⟩
      refine v_iload d_MO_number_3 rfl ?_
      refine a_go (by decide) (v_iload d_MO_number_5 rfl ?_)
      refine a_go (by decide) (v_icmp_ge d_MO_number_7 (t := 39) (by decide) (fun c1 => ?_) (fun c1 => ?_))
      · skip
        replace hok := mm_okp hok c1
        refine a_go (by decide) (v_return d_MO_number_39 rfl ?_)
        exact mm_fiS hk (mm_ifp c1 rfl)
      · skip
        replace hok := mm_okn hok c1
        refine a_go (by decide) (v_aload_n d_MO_number_10 rfl ?_)
        refine a_go (by decide) (v_iload_n d_MO_number_11 rfl ?_)
        refine a_go (by decide) (v_iload d_MO_number_12 rfl ?_)
        refine a_go (by decide) (v_iadd d_MO_number_14 ?_)
        refine a_go (by decide) (v_lload_n d_MO_number_15 rfl ?_)
        refine a_go (by decide) (v_bipush d_MO_number_16 kb_8 ?_)
        refine a_go (by decide) (v_iload d_MO_number_18 rfl ?_)
        refine a_go (by decide) (v_iconst d_MO_number_20 ki_1 ?_)
        refine a_go (by decide) (v_isub d_MO_number_21 ?_)
        refine a_go (by decide) (v_iload d_MO_number_22 rfl ?_)
        refine a_go (by decide) (v_isub d_MO_number_24 ?_)
        refine a_go (by decide) (v_imul d_MO_number_25 ?_)
        refine a_go (by decide) (v_lshr d_MO_number_26 ?_)
        refine a_go (by decide) (v_l2i d_MO_number_27 ?_)
        refine a_go (by decide) (v_sipush d_MO_number_28 ks_255 ?_)
        refine a_go (by decide) (v_iand d_MO_number_31 ?_)
        have o1 := And.left hok
        replace hok := And.right hok
        refine a_go (by decide) (v_iastore d_MO_number_32 ha0 o1 ?_)
        refine a_go (by decide) (v_iinc d_MO_number_33 (by decide) rfl ki_1 ?_)
        refine a_go (by decide) (v_goto d_MO_number_36 (t := 3) (by decide) ?_)
        refine a_cut (by decide) ⟨rfl, _, [(1, _), (2, _), (3, _), (5, _), (6, _)], ?_, (mm_all_c rfl (mm_all_c rfl (mm_all_c rfl (mm_all_c rfl (mm_all_c rfl (mm_all_n)))))), ⟨rfl, _, _, _, _, _, _, _, _, rfl, rfl, ha0, hok, (mm_mvS hk (mm_ifn c1 rfl))⟩⟩
        exact Nat.lt_succ_self _
-- TwoSlotsModel.header(IIIJ)V
def l_m_header_113 (k : Nat) (u6 : Int64) (u8 : Int32) (x : mm_S) : mm_S := match k with
  | 0 => x
  | k + 1 =>
    if (56 : Int32) ≤ u8 then
      let x11 := e_m_number 64 14 (56 : Int32) u6 (8 : Int32) x
      x11
    else
      let y12 := e_m_digested u6 (x.2.2 14 (Int32.toNatClampNeg u8)) x
      l_m_header_113 (k) y12 (u8 + (1 : Int32)) x
def okl_m_header_113 (k : Nat) (u6 : Int64) (u8 : Int32) (x : mm_S) : Prop := match k with
  | 0 => False
  | k + 1 => if (56 : Int32) ≤ u8 then ((ok_m_number 64 14 (56 : Int32) u6 (8 : Int32) x) ∧ (let x11 := e_m_number 64 14 (56 : Int32) u6 (8 : Int32) x; True)) else ((vp_in u8 64) ∧ (let y12 := e_m_digested u6 (x.2.2 14 (Int32.toNatClampNeg u8)) x; okl_m_header_113 (k) y12 (u8 + (1 : Int32)) x))
def l_m_header_3 (k : Nat) (u1 : Int32) (u2 : Int32) (u3 : Int32) (u4 : Int64) (u6 : Int32) (x : mm_S) : mm_S := match k with
  | 0 => x
  | k + 1 =>
    if (64 : Int32) ≤ u6 then
      let x1 := mm_setA x 14 (upd (x.2.2 14) (Int32.toNatClampNeg (0 : Int32)) (84 : Int32))
      let x2 := mm_setA x1 14 (upd (x1.2.2 14) (Int32.toNatClampNeg (1 : Int32)) (87 : Int32))
      let x3 := mm_setA x2 14 (upd (x2.2.2 14) (Int32.toNatClampNeg (2 : Int32)) (79 : Int32))
      let x4 := mm_setA x3 14 (upd (x3.2.2 14) (Int32.toNatClampNeg (3 : Int32)) (83 : Int32))
      let x5 := e_m_number 64 14 (4 : Int32) (Int32.toInt64 u1) (4 : Int32) x4
      let x6 := e_m_number 64 14 (8 : Int32) (Int32.toInt64 u2) (4 : Int32) x5
      let x7 := mm_setA x6 14 (upd (x6.2.2 14) (Int32.toNatClampNeg (12 : Int32)) u3)
      let x8 := e_m_number 64 14 (20 : Int32) u4 (8 : Int32) x7
      let y9 := e_m_numberOf u3 x8
      l_m_header_113 (mm_fu (0 : Int32) 56) y9 (0 : Int32) x8
    else
      let x10 := mm_setA x 14 (upd (x.2.2 14) (Int32.toNatClampNeg u6) (0 : Int32))
      l_m_header_3 (k) u1 u2 u3 u4 (u6 + (1 : Int32)) x10
def okl_m_header_3 (k : Nat) (u1 : Int32) (u2 : Int32) (u3 : Int32) (u4 : Int64) (u6 : Int32) (x : mm_S) : Prop := match k with
  | 0 => False
  | k + 1 => if (64 : Int32) ≤ u6 then ((vp_in (0 : Int32) 64) ∧ (let x1 := mm_setA x 14 (upd (x.2.2 14) (Int32.toNatClampNeg (0 : Int32)) (84 : Int32)); (vp_in (1 : Int32) 64) ∧ (let x2 := mm_setA x1 14 (upd (x1.2.2 14) (Int32.toNatClampNeg (1 : Int32)) (87 : Int32)); (vp_in (2 : Int32) 64) ∧ (let x3 := mm_setA x2 14 (upd (x2.2.2 14) (Int32.toNatClampNeg (2 : Int32)) (79 : Int32)); (vp_in (3 : Int32) 64) ∧ (let x4 := mm_setA x3 14 (upd (x3.2.2 14) (Int32.toNatClampNeg (3 : Int32)) (83 : Int32)); (ok_m_number 64 14 (4 : Int32) (Int32.toInt64 u1) (4 : Int32) x4) ∧ (let x5 := e_m_number 64 14 (4 : Int32) (Int32.toInt64 u1) (4 : Int32) x4; (ok_m_number 64 14 (8 : Int32) (Int32.toInt64 u2) (4 : Int32) x5) ∧ (let x6 := e_m_number 64 14 (8 : Int32) (Int32.toInt64 u2) (4 : Int32) x5; (vp_in (12 : Int32) 64) ∧ (let x7 := mm_setA x6 14 (upd (x6.2.2 14) (Int32.toNatClampNeg (12 : Int32)) u3); (ok_m_number 64 14 (20 : Int32) u4 (8 : Int32) x7) ∧ (let x8 := e_m_number 64 14 (20 : Int32) u4 (8 : Int32) x7; let y9 := e_m_numberOf u3 x8; okl_m_header_113 (mm_fu (0 : Int32) 56) y9 (0 : Int32) x8))))))))) else ((vp_in u6 64) ∧ (let x10 := mm_setA x 14 (upd (x.2.2 14) (Int32.toNatClampNeg u6) (0 : Int32)); okl_m_header_3 (k) u1 u2 u3 u4 (u6 + (1 : Int32)) x10))
def e_m_header (v0 : Int32) (v1 : Int32) (v2 : Int32) (v3 : Int64) (x : mm_S) : mm_S :=
  l_m_header_3 (mm_fu (0 : Int32) 64) v0 v1 v2 v3 (0 : Int32) x
def ok_m_header (v0 : Int32) (v1 : Int32) (v2 : Int32) (v3 : Int64) (x : mm_S) : Prop := okl_m_header_3 (mm_fu (0 : Int32) 64) v0 v1 v2 v3 (0 : Int32) x
def S_m_header : mm_P := fun as x K => ∃ (v0 : Int32) (v1 : Int32) (v2 : Int32) (v3 : Int64), as = [.ref 11, .int v0, .int v1, .int v2, .long v3] ∧ (ok_m_header v0 v1 v2 v3 x) ∧ K none (e_m_header v0 v1 v2 v3 x)
theorem i_m_header {v0 : Int32} {v1 : Int32} {v2 : Int32} {v3 : Int64} {x : mm_S} {K : mm_K} (hpre : (ok_m_header v0 v1 v2 v3 x)) (hk : K none (e_m_header v0 v1 v2 v3 x)) : S_m_header [.ref 11, .int v0, .int v1, .int v2, .long v3] x K := ⟨_, _, _, _, rfl, hpre, hk⟩
def G_m_header : mm_G := (FT_MO, CI_MO, CJ_MO, mm_tb [(44, 2, S_m_digested)], mm_tb [(60, 5, 5, S_m_number), (64, 2, 5, S_m_numberOf)], none)
def rm_m_header : Room := { frames := 1, cells := 0, slots := 0, locals := 26 }
abbrev Inv_m_header : mm_K → List Value → mm_S → Nat → Nat → mm_V → mm_S → Prop := fun K _ _ k pc lv x => (pc = 3 ∧ ∃ (f : Nat) (u1 : Int32) (u2 : Int32) (u3 : Int32) (u4 : Int64) (u6 : Int32), k = f + 100 ∧ lv = [(0, .ref 11), (1, .int u1), (2, .int u2), (3, .int u3), (4, .long u4), (6, .int u6)] ∧ okl_m_header_3 f u1 u2 u3 u4 u6 x ∧ K none (l_m_header_3 f u1 u2 u3 u4 u6 x)) ∨ (pc = 113 ∧ ∃ (f : Nat) (u6 : Int64) (u8 : Int32), k = f + 0 ∧ lv = [(0, .ref 11), (6, .long u6), (8, .int u8)] ∧ okl_m_header_113 f u6 u8 x ∧ K none (l_m_header_113 f u6 u8 x))
set_option maxHeartbeats 40000000 in
set_option maxRecDepth 10000 in
theorem c_m_header (l : Launch) : mm_Con l NW CL TB LL y_MO_header b_MO_header 9 (none) rm_m_header S_m_header := by
  refine mm_con G_m_header [3, 113] Inv_m_header (by decide +kernel) tb_good LL_u nw_nest ?_ rfl ft_MO ci_MO cj_MO ?_ ?_ ?_ ?_
  · rintro as x K ⟨v0, v1, v2, v3, rfl, -⟩
    exact Nat.le_of_ble_eq_true rfl
  · exact mm_tb_e (List.forall_mem_cons.mpr ⟨mm_cst_i (c_m_digested l) (mm_cb_i rfl rfl (by decide) (by decide) tc_MO_digested ti_MO ⟨by decide, by decide, by decide +kernel⟩ (Or.inl tl_MO_44)) ts_MO_digested, fun _ h => absurd h List.not_mem_nil⟩)
  · exact mm_tb_e (List.forall_mem_cons.mpr ⟨mm_cvt_i (c_m_number l) (mm_cb_i rfl rfl (by decide) (by decide) tc_MO_number ti_MO ⟨by decide, by decide, by decide +kernel⟩ (Or.inl tl_MO_60)) rfl tv_MO_number tx_MO_number, List.forall_mem_cons.mpr ⟨mm_cvt_i (c_m_numberOf l) (mm_cb_i rfl rfl (by decide) (by decide) tc_MO_numberOf ti_MO ⟨by decide, by decide, by decide +kernel⟩ (Or.inl tl_MO_64)) rfl tv_MO_numberOf tx_MO_numberOf, fun _ h => absurd h List.not_mem_nil⟩⟩)
  · rintro as x K ⟨v0, v1, v2, v3, rfl, hok, hk⟩
    refine ⟨400, ?_⟩
    refine v_iconst d_MO_header_0 ki_0 ?_
    refine a_go (by decide) (v_istore d_MO_header_1 (by decide) ?_)
    refine a_cut (by decide) ⟨rfl, _, [(0, _), (1, _), (2, _), (3, _), (4, _), (6, _)], (mm_all_c rfl (mm_all_c rfl (mm_all_c rfl (mm_all_c rfl (mm_all_c rfl (mm_all_c rfl (mm_all_n))))))), (Or.inl (⟨rfl, _, _, _, _, _, _, rfl, rfl, hok, (mm_mvS hk rfl)⟩))⟩
  · rintro as x0 K - k pc lv x - hinv
    rcases hinv with hinv | hinv
    · skip
      obtain ⟨rfl, f, u1, u2, u3, u4, u6, hkf, rfl, hok, hk⟩ := hinv
      cases f with
      | zero => exact False.elim hok
      | succ k =>
        subst hkf
        refine ⟨900, ?_⟩
        refine v_iload d_MO_header_3 rfl ?_
        refine a_go (by decide) (v_bipush d_MO_header_5 kb_64 ?_)
        refine a_go (by decide) (v_icmp_ge d_MO_header_7 (t := 24) (by decide) (fun c1 => ?_) (fun c1 => ?_))
        · skip
          replace hok := mm_okp hok c1
          refine a_go (by decide) (v_aload_n d_MO_header_24 rfl ?_)
          refine a_go (by decide) (v_getR d_MO_header_25 rfl rfl rfl ?_)
          refine a_go (by decide) (v_iconst d_MO_header_28 ki_0 ?_)
          refine a_go (by decide) (v_bipush d_MO_header_29 kb_84 ?_)
          have o1 := And.left hok
          replace hok := And.right hok
          refine a_go (by decide) (v_iastore d_MO_header_31 rfl o1 ?_)
          refine a_go (by decide) (v_aload_n d_MO_header_32 rfl ?_)
          refine a_go (by decide) (v_getR d_MO_header_33 rfl rfl rfl ?_)
          refine a_go (by decide) (v_iconst d_MO_header_36 ki_1 ?_)
          refine a_go (by decide) (v_bipush d_MO_header_37 kb_87 ?_)
          have o2 := And.left hok
          replace hok := And.right hok
          refine a_go (by decide) (v_iastore d_MO_header_39 rfl o2 ?_)
          refine a_go (by decide) (v_aload_n d_MO_header_40 rfl ?_)
          refine a_go (by decide) (v_getR d_MO_header_41 rfl rfl rfl ?_)
          refine a_go (by decide) (v_iconst d_MO_header_44 ki_2 ?_)
          refine a_go (by decide) (v_bipush d_MO_header_45 kb_79 ?_)
          have o3 := And.left hok
          replace hok := And.right hok
          refine a_go (by decide) (v_iastore d_MO_header_47 rfl o3 ?_)
          refine a_go (by decide) (v_aload_n d_MO_header_48 rfl ?_)
          refine a_go (by decide) (v_getR d_MO_header_49 rfl rfl rfl ?_)
          refine a_go (by decide) (v_iconst d_MO_header_52 ki_3 ?_)
          refine a_go (by decide) (v_bipush d_MO_header_53 kb_83 ?_)
          have o4 := And.left hok
          replace hok := And.right hok
          refine a_go (by decide) (v_iastore d_MO_header_55 rfl o4 ?_)
          refine a_go (by decide) (v_aload_n d_MO_header_56 rfl ?_)
          refine a_go (by decide) (v_aload_n d_MO_header_57 rfl ?_)
          refine a_go (by decide) (v_getR d_MO_header_58 rfl rfl rfl ?_)
          refine a_go (by decide) (v_iconst d_MO_header_61 ki_4 ?_)
          refine a_go (by decide) (v_iload_n d_MO_header_62 rfl ?_)
          refine a_go (by decide) (v_i2l d_MO_header_63 ?_)
          refine a_go (by decide) (v_iconst d_MO_header_64 ki_4 ?_)
          refine a_go (by decide) (v_callV d_MO_header_65 rfl (mm_spl 5 rfl) rfl (Nat.le_of_ble_eq_true rfl) rfl ?_)
          have o5 := And.left hok
          replace hok := And.right hok
          refine (i_m_number rfl o5 ?_)
          refine a_go (by decide) (v_aload_n d_MO_header_68 rfl ?_)
          refine a_go (by decide) (v_aload_n d_MO_header_69 rfl ?_)
          refine a_go (by decide) (v_getR d_MO_header_70 rfl rfl rfl ?_)
          refine a_go (by decide) (v_bipush d_MO_header_73 kb_8 ?_)
          refine a_go (by decide) (v_iload_n d_MO_header_75 rfl ?_)
          refine a_go (by decide) (v_i2l d_MO_header_76 ?_)
          refine a_go (by decide) (v_iconst d_MO_header_77 ki_4 ?_)
          refine a_go (by decide) (v_callV d_MO_header_78 rfl (mm_spl 5 rfl) rfl (Nat.le_of_ble_eq_true rfl) rfl ?_)
          have o6 := And.left hok
          replace hok := And.right hok
          refine (i_m_number rfl o6 ?_)
          refine a_go (by decide) (v_aload_n d_MO_header_81 rfl ?_)
          refine a_go (by decide) (v_getR d_MO_header_82 rfl rfl rfl ?_)
          refine a_go (by decide) (v_bipush d_MO_header_85 kb_12 ?_)
          refine a_go (by decide) (v_iload_n d_MO_header_87 rfl ?_)
          have o7 := And.left hok
          replace hok := And.right hok
          refine a_go (by decide) (v_iastore d_MO_header_88 rfl o7 ?_)
          refine a_go (by decide) (v_aload_n d_MO_header_89 rfl ?_)
          refine a_go (by decide) (v_aload_n d_MO_header_90 rfl ?_)
          refine a_go (by decide) (v_getR d_MO_header_91 rfl rfl rfl ?_)
          refine a_go (by decide) (v_bipush d_MO_header_94 kb_20 ?_)
          refine a_go (by decide) (v_lload d_MO_header_96 rfl ?_)
          refine a_go (by decide) (v_bipush d_MO_header_98 kb_8 ?_)
          refine a_go (by decide) (v_callV d_MO_header_100 rfl (mm_spl 5 rfl) rfl (Nat.le_of_ble_eq_true rfl) rfl ?_)
          have o8 := And.left hok
          replace hok := And.right hok
          refine (i_m_number rfl o8 ?_)
          refine a_go (by decide) (v_aload_n d_MO_header_103 rfl ?_)
          refine a_go (by decide) (v_iload_n d_MO_header_104 rfl ?_)
          refine a_go (by decide) (v_callV d_MO_header_105 rfl (mm_spl 2 rfl) rfl (Nat.le_of_ble_eq_true rfl) rfl ?_)
          refine (i_m_numberOf ?_)
          refine a_go (by decide) (v_lstore d_MO_header_108 (by decide) ?_)
          refine a_go (by decide) (v_iconst d_MO_header_110 ki_0 ?_)
          refine a_go (by decide) (v_istore d_MO_header_111 (by decide) ?_)
          refine a_cut (by decide) ⟨rfl, _, [(0, _), (6, _), (8, _)], ?_, (mm_all_c rfl (mm_all_c rfl (mm_all_c rfl (mm_all_n)))), (Or.inr (⟨rfl, _, _, _, rfl, rfl, hok, (mm_mvS hk (mm_ifp c1 rfl))⟩))⟩
          exact mm_fall (by decide)
        · skip
          replace hok := mm_okn hok c1
          refine a_go (by decide) (v_aload_n d_MO_header_10 rfl ?_)
          refine a_go (by decide) (v_getR d_MO_header_11 rfl rfl rfl ?_)
          refine a_go (by decide) (v_iload d_MO_header_14 rfl ?_)
          refine a_go (by decide) (v_iconst d_MO_header_16 ki_0 ?_)
          have o9 := And.left hok
          replace hok := And.right hok
          refine a_go (by decide) (v_iastore d_MO_header_17 rfl o9 ?_)
          refine a_go (by decide) (v_iinc d_MO_header_18 (by decide) rfl ki_1 ?_)
          refine a_go (by decide) (v_goto d_MO_header_21 (t := 3) (by decide) ?_)
          refine a_cut (by decide) ⟨rfl, _, [(0, _), (1, _), (2, _), (3, _), (4, _), (6, _)], ?_, (mm_all_c rfl (mm_all_c rfl (mm_all_c rfl (mm_all_c rfl (mm_all_c rfl (mm_all_c rfl (mm_all_n))))))), (Or.inl (⟨rfl, _, _, _, _, _, _, rfl, rfl, hok, (mm_mvS hk (mm_ifn c1 rfl))⟩))⟩
          exact mm_off _ _
    · skip
      obtain ⟨rfl, f, u6, u8, hkf, rfl, hok, hk⟩ := hinv
      cases f with
      | zero => exact False.elim hok
      | succ k =>
        subst hkf
        refine ⟨900, ?_⟩
        refine v_iload d_MO_header_113 rfl ?_
        refine a_go (by decide) (v_bipush d_MO_header_115 kb_56 ?_)
        refine a_go (by decide) (v_icmp_ge d_MO_header_117 (t := 140) (by decide) (fun c2 => ?_) (fun c2 => ?_))
        · skip
          replace hok := mm_okp hok c2
          refine a_go (by decide) (v_aload_n d_MO_header_140 rfl ?_)
          refine a_go (by decide) (v_aload_n d_MO_header_141 rfl ?_)
          refine a_go (by decide) (v_getR d_MO_header_142 rfl rfl rfl ?_)
          refine a_go (by decide) (v_bipush d_MO_header_145 kb_56 ?_)
          refine a_go (by decide) (v_lload d_MO_header_147 rfl ?_)
          refine a_go (by decide) (v_bipush d_MO_header_149 kb_8 ?_)
          refine a_go (by decide) (v_callV d_MO_header_151 rfl (mm_spl 5 rfl) rfl (Nat.le_of_ble_eq_true rfl) rfl ?_)
          have o10 := And.left hok
          replace hok := And.right hok
          refine (i_m_number rfl o10 ?_)
          refine a_go (by decide) (v_return d_MO_header_154 rfl ?_)
          exact mm_fiS hk (mm_ifp c2 rfl)
        · skip
          replace hok := mm_okn hok c2
          refine a_go (by decide) (v_lload d_MO_header_120 rfl ?_)
          refine a_go (by decide) (v_aload_n d_MO_header_122 rfl ?_)
          refine a_go (by decide) (v_getR d_MO_header_123 rfl rfl rfl ?_)
          refine a_go (by decide) (v_iload d_MO_header_126 rfl ?_)
          have o11 := And.left hok
          replace hok := And.right hok
          refine a_go (by decide) (v_iaload d_MO_header_128 (by decide) rfl o11 ?_)
          refine a_go (by decide) (v_callS d_MO_header_129 rfl (mm_spl 2 rfl) rfl (Nat.le_of_ble_eq_true rfl) ?_)
          refine (i_m_digested ?_)
          refine a_go (by decide) (v_lstore d_MO_header_132 (by decide) ?_)
          refine a_go (by decide) (v_iinc d_MO_header_134 (by decide) rfl ki_1 ?_)
          refine a_go (by decide) (v_goto d_MO_header_137 (t := 113) (by decide) ?_)
          refine a_cut (by decide) ⟨rfl, _, [(0, _), (6, _), (8, _)], ?_, (mm_all_c rfl (mm_all_c rfl (mm_all_c rfl (mm_all_n)))), (Or.inr (⟨rfl, _, _, _, rfl, rfl, hok, (mm_mvS hk (mm_ifn c2 rfl))⟩))⟩
          exact Nat.lt_succ_self _
-- TwoSlotsModel.read([III)J
def l_m_read_6 (k : Nat) (n0 : Nat) (r0 : Nat) (u2 : Int32) (u3 : Int32) (u4 : Int64) (u6 : Int32) (x : mm_S) : Int64 := match k with
  | 0 => 0
  | k + 1 =>
    if u3 ≤ u6 then
      u4
    else
      let y2 := (u4 <<< (Int32.toInt64 (8 : Int32) &&& 63)) ||| (Int32.toInt64 (x.2.2 r0 (Int32.toNatClampNeg (u2 + u6))))
      l_m_read_6 (k) n0 r0 u2 u3 y2 (u6 + (1 : Int32)) x
def okl_m_read_6 (k : Nat) (n0 : Nat) (r0 : Nat) (u2 : Int32) (u3 : Int32) (u4 : Int64) (u6 : Int32) (x : mm_S) : Prop := match k with
  | 0 => False
  | k + 1 => if u3 ≤ u6 then (True) else ((vp_in (u2 + u6) n0) ∧ (let y2 := (u4 <<< (Int32.toInt64 (8 : Int32) &&& 63)) ||| (Int32.toInt64 (x.2.2 r0 (Int32.toNatClampNeg (u2 + u6)))); okl_m_read_6 (k) n0 r0 u2 u3 y2 (u6 + (1 : Int32)) x))
def e_m_read (n0 : Nat) (r0 : Nat) (v1 : Int32) (v2 : Int32) (x : mm_S) : Int64 :=
  let y1 := (0 : Int64)
  l_m_read_6 (mm_fu (0 : Int32) v2) n0 r0 v1 v2 y1 (0 : Int32) x
def ok_m_read (n0 : Nat) (r0 : Nat) (v1 : Int32) (v2 : Int32) (x : mm_S) : Prop := let y1 := (0 : Int64); okl_m_read_6 (mm_fu (0 : Int32) v2) n0 r0 v1 v2 y1 (0 : Int32) x
def S_m_read : mm_P := fun as x K => ∃ (a0 n0 r0 : Nat) (v1 : Int32) (v2 : Int32), as = [.ref 11, .ref a0, .int v1, .int v2] ∧ mm_ar LL a0 = some (1, n0, r0) ∧ (ok_m_read n0 r0 v1 v2 x) ∧ K (some (.long (e_m_read n0 r0 v1 v2 x))) x
theorem i_m_read {a0 n0 r0 : Nat} {v1 : Int32} {v2 : Int32} {x : mm_S} {K : mm_K} (ha0 : mm_ar LL a0 = some (1, n0, r0)) (hpre : (ok_m_read n0 r0 v1 v2 x)) (hk : K (some (.long (e_m_read n0 r0 v1 v2 x))) x) : S_m_read [.ref 11, .ref a0, .int v1, .int v2] x K := ⟨_, _, _, _, _, rfl, ha0, hpre, hk⟩
def G_m_read : mm_G := (FT_MO, CI_MO, CJ_MO, mm_tb [], mm_tb [], none)
def rm_m_read : Room := { frames := 0, cells := 0, slots := 0, locals := 0 }
abbrev Inv_m_read : mm_K → List Value → mm_S → Nat → Nat → mm_V → mm_S → Prop := fun K _ _ k pc lv x => (pc = 6 ∧ ∃ (f : Nat) (a0 n0 r0 : Nat) (u2 : Int32) (u3 : Int32) (u4 : Int64) (u6 : Int32), k = f + 0 ∧ lv = [(1, .ref a0), (2, .int u2), (3, .int u3), (4, .long u4), (6, .int u6)] ∧ mm_ar LL a0 = some (1, n0, r0) ∧ okl_m_read_6 f n0 r0 u2 u3 u4 u6 x ∧ K (some (.long (l_m_read_6 f n0 r0 u2 u3 u4 u6 x))) x)
set_option maxHeartbeats 40000000 in
set_option maxRecDepth 10000 in
theorem c_m_read (l : Launch) : mm_Con l NW CL TB LL y_MO_read b_MO_read 7 (some .long) rm_m_read S_m_read := by
  refine mm_con G_m_read [6] Inv_m_read (by decide +kernel) tb_good LL_u nw_nest ?_ rfl ft_MO ci_MO cj_MO ?_ ?_ ?_ ?_
  · rintro as x K ⟨a0, n0, r0, v1, v2, rfl, -⟩
    exact Nat.le_of_ble_eq_true rfl
  · exact mm_tb_e (fun _ h => absurd h List.not_mem_nil)
  · exact mm_tb_e (fun _ h => absurd h List.not_mem_nil)
  · rintro as x K ⟨a0, n0, r0, v1, v2, rfl, ha0, hok, hk⟩
    refine ⟨400, ?_⟩
    refine v_lconst d_MO_read_0 kl_0 ?_
    refine a_go (by decide) (v_lstore d_MO_read_1 (by decide) ?_)
    refine a_go (by decide) (v_iconst d_MO_read_3 ki_0 ?_)
    refine a_go (by decide) (v_istore d_MO_read_4 (by decide) ?_)
    refine a_cut (by decide) ⟨rfl, _, [(1, _), (2, _), (3, _), (4, _), (6, _)], (mm_all_c rfl (mm_all_c rfl (mm_all_c rfl (mm_all_c rfl (mm_all_c rfl (mm_all_n)))))), ⟨rfl, _, _, _, _, _, _, _, _, rfl, rfl, ha0, hok, (mm_mvVl hk rfl)⟩⟩
  · rintro as x0 K - k pc lv x - hinv
    obtain ⟨rfl, f, a0, n0, r0, u2, u3, u4, u6, hkf, rfl, ha0, hok, hk⟩ := hinv
    cases f with
    | zero => exact False.elim hok
    | succ k =>
      subst hkf
      refine ⟨900, ?_⟩
      refine v_iload d_MO_read_6 rfl ?_
      refine a_go (by decide) (v_iload_n d_MO_read_8 rfl ?_)
      refine a_go (by decide) (v_icmp_ge d_MO_read_9 (t := 33) (by decide) (fun c1 => ?_) (fun c1 => ?_))
      · skip
        replace hok := mm_okp hok c1
        refine a_go (by decide) (v_lload d_MO_read_33 rfl ?_)
        refine a_go (by decide) (v_lreturn d_MO_read_35 rfl ?_)
        exact mm_fiVl hk (mm_ifp c1 rfl)
      · skip
        replace hok := mm_okn hok c1
        refine a_go (by decide) (v_lload d_MO_read_12 rfl ?_)
        refine a_go (by decide) (v_bipush d_MO_read_14 kb_8 ?_)
        refine a_go (by decide) (v_lshl d_MO_read_16 ?_)
        refine a_go (by decide) (v_aload_n d_MO_read_17 rfl ?_)
        refine a_go (by decide) (v_iload_n d_MO_read_18 rfl ?_)
        refine a_go (by decide) (v_iload d_MO_read_19 rfl ?_)
        refine a_go (by decide) (v_iadd d_MO_read_21 ?_)
        have o1 := And.left hok
        replace hok := And.right hok
        refine a_go (by decide) (v_iaload d_MO_read_22 (LL_n ha0).2 ha0 o1 ?_)
        refine a_go (by decide) (v_i2l d_MO_read_23 ?_)
        refine a_go (by decide) (v_lor d_MO_read_24 ?_)
        refine a_go (by decide) (v_lstore d_MO_read_25 (by decide) ?_)
        refine a_go (by decide) (v_iinc d_MO_read_27 (by decide) rfl ki_1 ?_)
        refine a_go (by decide) (v_goto d_MO_read_30 (t := 6) (by decide) ?_)
        refine a_cut (by decide) ⟨rfl, _, [(1, _), (2, _), (3, _), (4, _), (6, _)], ?_, (mm_all_c rfl (mm_all_c rfl (mm_all_c rfl (mm_all_c rfl (mm_all_c rfl (mm_all_n)))))), ⟨rfl, _, _, _, _, _, _, _, _, rfl, rfl, ha0, hok, (mm_mvVl hk (mm_ifn c1 rfl))⟩⟩
        exact Nat.lt_succ_self _
-- TwoSlotsModel.newest()I
def l_m_newest_4 (k : Nat) (u1 : Int32) (u2 : Int32) (x : mm_S) : Int32 := match k with
  | 0 => 0
  | k + 1 =>
    if (128 : Int32) ≤ u2 then
      u1
    else
      if (x.2.2 10 (Int32.toNatClampNeg u2)) = (0 : Int32) then
        if (x.2.2 10 (Int32.toNatClampNeg (u2 + (15 : Int32)))) = (90 : Int32) then
          if (2 : Int32) ≤ (x.2.2 10 (Int32.toNatClampNeg (u2 + (4 : Int32)))) then
            l_m_newest_4 (k) u1 (u2 + (16 : Int32)) x
          else
            if (x.2.2 10 (Int32.toNatClampNeg (u2 + (5 : Int32)))) < (2 : Int32) then
              if (4 : Int32) ≤ (x.2.2 10 (Int32.toNatClampNeg (u2 + (6 : Int32)))) then
                l_m_newest_4 (k) u1 (u2 + (16 : Int32)) x
              else
                if u1 = (-1 : Int32) then
                  l_m_newest_4 (k) u2 (u2 + (16 : Int32)) x
                else
                  if (lg_cmp (e_m_read 4096 10 u2 (4 : Int32) x) (e_m_read 4096 10 u1 (4 : Int32) x)) ≤ (0 : Int32) then
                    l_m_newest_4 (k) u1 (u2 + (16 : Int32)) x
                  else
                    l_m_newest_4 (k) u2 (u2 + (16 : Int32)) x
            else
              if (x.2.2 10 (Int32.toNatClampNeg (u2 + (5 : Int32)))) = (255 : Int32) then
                if (4 : Int32) ≤ (x.2.2 10 (Int32.toNatClampNeg (u2 + (6 : Int32)))) then
                  l_m_newest_4 (k) u1 (u2 + (16 : Int32)) x
                else
                  if u1 = (-1 : Int32) then
                    l_m_newest_4 (k) u2 (u2 + (16 : Int32)) x
                  else
                    if (lg_cmp (e_m_read 4096 10 u2 (4 : Int32) x) (e_m_read 4096 10 u1 (4 : Int32) x)) ≤ (0 : Int32) then
                      l_m_newest_4 (k) u1 (u2 + (16 : Int32)) x
                    else
                      l_m_newest_4 (k) u2 (u2 + (16 : Int32)) x
              else
                l_m_newest_4 (k) u1 (u2 + (16 : Int32)) x
        else
          l_m_newest_4 (k) u1 (u2 + (16 : Int32)) x
      else
        l_m_newest_4 (k) u1 (u2 + (16 : Int32)) x
def okl_m_newest_4 (k : Nat) (u1 : Int32) (u2 : Int32) (x : mm_S) : Prop := match k with
  | 0 => False
  | k + 1 => if (128 : Int32) ≤ u2 then (True) else ((vp_in u2 4096) ∧ (if (x.2.2 10 (Int32.toNatClampNeg u2)) = (0 : Int32) then ((vp_in (u2 + (15 : Int32)) 4096) ∧ (if (x.2.2 10 (Int32.toNatClampNeg (u2 + (15 : Int32)))) = (90 : Int32) then ((vp_in (u2 + (4 : Int32)) 4096) ∧ (if (2 : Int32) ≤ (x.2.2 10 (Int32.toNatClampNeg (u2 + (4 : Int32)))) then (okl_m_newest_4 (k) u1 (u2 + (16 : Int32)) x) else ((vp_in (u2 + (5 : Int32)) 4096) ∧ (if (x.2.2 10 (Int32.toNatClampNeg (u2 + (5 : Int32)))) < (2 : Int32) then ((vp_in (u2 + (6 : Int32)) 4096) ∧ (if (4 : Int32) ≤ (x.2.2 10 (Int32.toNatClampNeg (u2 + (6 : Int32)))) then (okl_m_newest_4 (k) u1 (u2 + (16 : Int32)) x) else (if u1 = (-1 : Int32) then (okl_m_newest_4 (k) u2 (u2 + (16 : Int32)) x) else ((ok_m_read 4096 10 u2 (4 : Int32) x) ∧ ((ok_m_read 4096 10 u1 (4 : Int32) x) ∧ (if (lg_cmp (e_m_read 4096 10 u2 (4 : Int32) x) (e_m_read 4096 10 u1 (4 : Int32) x)) ≤ (0 : Int32) then (okl_m_newest_4 (k) u1 (u2 + (16 : Int32)) x) else (okl_m_newest_4 (k) u2 (u2 + (16 : Int32)) x))))))) else ((vp_in (u2 + (5 : Int32)) 4096) ∧ (if (x.2.2 10 (Int32.toNatClampNeg (u2 + (5 : Int32)))) = (255 : Int32) then ((vp_in (u2 + (6 : Int32)) 4096) ∧ (if (4 : Int32) ≤ (x.2.2 10 (Int32.toNatClampNeg (u2 + (6 : Int32)))) then (okl_m_newest_4 (k) u1 (u2 + (16 : Int32)) x) else (if u1 = (-1 : Int32) then (okl_m_newest_4 (k) u2 (u2 + (16 : Int32)) x) else ((ok_m_read 4096 10 u2 (4 : Int32) x) ∧ ((ok_m_read 4096 10 u1 (4 : Int32) x) ∧ (if (lg_cmp (e_m_read 4096 10 u2 (4 : Int32) x) (e_m_read 4096 10 u1 (4 : Int32) x)) ≤ (0 : Int32) then (okl_m_newest_4 (k) u1 (u2 + (16 : Int32)) x) else (okl_m_newest_4 (k) u2 (u2 + (16 : Int32)) x))))))) else (okl_m_newest_4 (k) u1 (u2 + (16 : Int32)) x))))))) else (okl_m_newest_4 (k) u1 (u2 + (16 : Int32)) x))) else (okl_m_newest_4 (k) u1 (u2 + (16 : Int32)) x)))
def e_m_newest (x : mm_S) : Int32 :=
  l_m_newest_4 (mm_fu (0 : Int32) 128) (-1 : Int32) (0 : Int32) x
def ok_m_newest (x : mm_S) : Prop := okl_m_newest_4 (mm_fu (0 : Int32) 128) (-1 : Int32) (0 : Int32) x
def S_m_newest : mm_P := fun as x K => as = [.ref 11] ∧ (ok_m_newest x) ∧ K (some (.int (e_m_newest x))) x
theorem i_m_newest {x : mm_S} {K : mm_K} (hpre : (ok_m_newest x)) (hk : K (some (.int (e_m_newest x))) x) : S_m_newest [.ref 11] x K := ⟨rfl, hpre, hk⟩
def G_m_newest : mm_G := (FT_MO, CI_MO, CJ_MO, mm_tb [], mm_tb [(68, 4, 5, S_m_read)], none)
def rm_m_newest : Room := { frames := 1, cells := 0, slots := 0, locals := 26 }
abbrev Inv_m_newest : mm_K → List Value → mm_S → Nat → Nat → mm_V → mm_S → Prop := fun K _ _ k pc lv x => (pc = 4 ∧ ∃ (f : Nat) (u1 : Int32) (u2 : Int32), k = f + 0 ∧ lv = [(0, .ref 11), (1, .int u1), (2, .int u2)] ∧ okl_m_newest_4 f u1 u2 x ∧ K (some (.int (l_m_newest_4 f u1 u2 x))) x)
set_option maxHeartbeats 40000000 in
set_option maxRecDepth 10000 in
theorem c_m_newest (l : Launch) : mm_Con l NW CL TB LL y_MO_newest b_MO_newest 4 (some .int) rm_m_newest S_m_newest := by
  refine mm_con G_m_newest [4] Inv_m_newest (by decide +kernel) tb_good LL_u nw_nest ?_ rfl ft_MO ci_MO cj_MO ?_ ?_ ?_ ?_
  · rintro as x K ⟨rfl, -⟩
    exact Nat.le_of_ble_eq_true rfl
  · exact mm_tb_e (fun _ h => absurd h List.not_mem_nil)
  · exact mm_tb_e (List.forall_mem_cons.mpr ⟨mm_cvt_i (c_m_read l) (mm_cb_i rfl rfl (by decide) (by decide) tc_MO_read ti_MO ⟨by decide, by decide, by decide +kernel⟩ (Or.inl tl_MO_68)) rfl tv_MO_read tx_MO_read, fun _ h => absurd h List.not_mem_nil⟩)
  · rintro as x K ⟨rfl, hok, hk⟩
    refine ⟨400, ?_⟩
    refine v_iconst d_MO_newest_0 ki_m1 ?_
    refine a_go (by decide) (v_istore_n d_MO_newest_1 (by decide) ?_)
    refine a_go (by decide) (v_iconst d_MO_newest_2 ki_0 ?_)
    refine a_go (by decide) (v_istore_n d_MO_newest_3 (by decide) ?_)
    refine a_cut (by decide) ⟨rfl, _, [(0, _), (1, _), (2, _)], (mm_all_c rfl (mm_all_c rfl (mm_all_c rfl (mm_all_n)))), ⟨rfl, _, _, _, rfl, rfl, hok, (mm_mvV hk rfl)⟩⟩
  · rintro as x0 K - k pc lv x - hinv
    obtain ⟨rfl, f, u1, u2, hkf, rfl, hok, hk⟩ := hinv
    cases f with
    | zero => exact False.elim hok
    | succ k =>
      subst hkf
      refine ⟨900, ?_⟩
      refine v_iload_n d_MO_newest_4 rfl ?_
      refine a_go (by decide) (v_sipush d_MO_newest_5 ks_128 ?_)
      refine a_go (by decide) (v_icmp_ge d_MO_newest_8 (t := 132) (by decide) (fun c1 => ?_) (fun c1 => ?_))
      · skip
        replace hok := mm_okp hok c1
        refine a_go (by decide) (v_iload_n d_MO_newest_132 rfl ?_)
        refine a_go (by decide) (v_ireturn d_MO_newest_133 rfl rfl ?_)
        exact mm_fiV hk (mm_ifp c1 rfl)
      · skip
        replace hok := mm_okn hok c1
        refine a_go (by decide) (v_aload_n d_MO_newest_11 rfl ?_)
        refine a_go (by decide) (v_getR d_MO_newest_12 rfl rfl rfl ?_)
        refine a_go (by decide) (v_iload_n d_MO_newest_15 rfl ?_)
        have o1 := And.left hok
        replace hok := And.right hok
        refine a_go (by decide) (v_iaload d_MO_newest_16 (by decide) rfl o1 ?_)
        refine a_go (by decide) (v_if_ne d_MO_newest_17 (t := 89) (by decide) (fun c2 => ?_) (fun c2 => ?_))
        · skip
          replace hok := mm_okn hok c2
          refine a_go (by decide) (v_iconst d_MO_newest_89 ki_0 ?_)
          refine a_go (by decide) (v_istore_n d_MO_newest_90 (by decide) ?_)
          refine a_go (by decide) (v_iload_n d_MO_newest_91 rfl ?_)
          refine a_go (by decide) (v_if_eq d_MO_newest_92 (t := 126) (by decide) (fun c3 => ?_) (fun c3 => absurd c3 (by decide)))
          refine a_go (by decide) (v_iinc d_MO_newest_126 (by decide) rfl ki_16 ?_)
          refine a_go (by decide) (v_goto d_MO_newest_129 (t := 4) (by decide) ?_)
          refine a_cut (by decide) ⟨rfl, _, [(0, _), (1, _), (2, _)], ?_, (mm_all_c rfl (mm_all_c rfl (mm_all_c rfl (mm_all_n)))), ⟨rfl, _, _, _, rfl, rfl, hok, (mm_mvV hk (mm_ifn c1 (mm_ifn c2 rfl)))⟩⟩
          exact Nat.lt_succ_self _
        · skip
          replace hok := mm_okp hok c2
          refine a_go (by decide) (v_aload_n d_MO_newest_20 rfl ?_)
          refine a_go (by decide) (v_getR d_MO_newest_21 rfl rfl rfl ?_)
          refine a_go (by decide) (v_iload_n d_MO_newest_24 rfl ?_)
          refine a_go (by decide) (v_bipush d_MO_newest_25 kb_15 ?_)
          refine a_go (by decide) (v_iadd d_MO_newest_27 ?_)
          have o2 := And.left hok
          replace hok := And.right hok
          refine a_go (by decide) (v_iaload d_MO_newest_28 (by decide) rfl o2 ?_)
          refine a_go (by decide) (v_bipush d_MO_newest_29 kb_90 ?_)
          refine a_go (by decide) (v_icmp_ne d_MO_newest_31 (t := 89) (by decide) (fun c4 => ?_) (fun c4 => ?_))
          · skip
            replace hok := mm_okn hok c4
            refine a_go (by decide) (v_iconst d_MO_newest_89 ki_0 ?_)
            refine a_go (by decide) (v_istore_n d_MO_newest_90 (by decide) ?_)
            refine a_go (by decide) (v_iload_n d_MO_newest_91 rfl ?_)
            refine a_go (by decide) (v_if_eq d_MO_newest_92 (t := 126) (by decide) (fun c5 => ?_) (fun c5 => absurd c5 (by decide)))
            refine a_go (by decide) (v_iinc d_MO_newest_126 (by decide) rfl ki_16 ?_)
            refine a_go (by decide) (v_goto d_MO_newest_129 (t := 4) (by decide) ?_)
            refine a_cut (by decide) ⟨rfl, _, [(0, _), (1, _), (2, _)], ?_, (mm_all_c rfl (mm_all_c rfl (mm_all_c rfl (mm_all_n)))), ⟨rfl, _, _, _, rfl, rfl, hok, (mm_mvV hk (mm_ifn c1 (mm_ifp c2 (mm_ifn c4 rfl))))⟩⟩
            exact Nat.lt_succ_self _
          · skip
            replace hok := mm_okp hok c4
            refine a_go (by decide) (v_aload_n d_MO_newest_34 rfl ?_)
            refine a_go (by decide) (v_getR d_MO_newest_35 rfl rfl rfl ?_)
            refine a_go (by decide) (v_iload_n d_MO_newest_38 rfl ?_)
            refine a_go (by decide) (v_iconst d_MO_newest_39 ki_4 ?_)
            refine a_go (by decide) (v_iadd d_MO_newest_40 ?_)
            have o3 := And.left hok
            replace hok := And.right hok
            refine a_go (by decide) (v_iaload d_MO_newest_41 (by decide) rfl o3 ?_)
            refine a_go (by decide) (v_iconst d_MO_newest_42 ki_2 ?_)
            refine a_go (by decide) (v_icmp_ge d_MO_newest_43 (t := 89) (by decide) (fun c6 => ?_) (fun c6 => ?_))
            · skip
              replace hok := mm_okp hok c6
              refine a_go (by decide) (v_iconst d_MO_newest_89 ki_0 ?_)
              refine a_go (by decide) (v_istore_n d_MO_newest_90 (by decide) ?_)
              refine a_go (by decide) (v_iload_n d_MO_newest_91 rfl ?_)
              refine a_go (by decide) (v_if_eq d_MO_newest_92 (t := 126) (by decide) (fun c7 => ?_) (fun c7 => absurd c7 (by decide)))
              refine a_go (by decide) (v_iinc d_MO_newest_126 (by decide) rfl ki_16 ?_)
              refine a_go (by decide) (v_goto d_MO_newest_129 (t := 4) (by decide) ?_)
              refine a_cut (by decide) ⟨rfl, _, [(0, _), (1, _), (2, _)], ?_, (mm_all_c rfl (mm_all_c rfl (mm_all_c rfl (mm_all_n)))), ⟨rfl, _, _, _, rfl, rfl, hok, (mm_mvV hk (mm_ifn c1 (mm_ifp c2 (mm_ifp c4 (mm_ifp c6 rfl)))))⟩⟩
              exact Nat.lt_succ_self _
            · skip
              replace hok := mm_okn hok c6
              refine a_go (by decide) (v_aload_n d_MO_newest_46 rfl ?_)
              refine a_go (by decide) (v_getR d_MO_newest_47 rfl rfl rfl ?_)
              refine a_go (by decide) (v_iload_n d_MO_newest_50 rfl ?_)
              refine a_go (by decide) (v_iconst d_MO_newest_51 ki_5 ?_)
              refine a_go (by decide) (v_iadd d_MO_newest_52 ?_)
              have o4 := And.left hok
              replace hok := And.right hok
              refine a_go (by decide) (v_iaload d_MO_newest_53 (by decide) rfl o4 ?_)
              refine a_go (by decide) (v_iconst d_MO_newest_54 ki_2 ?_)
              refine a_go (by decide) (v_icmp_lt d_MO_newest_55 (t := 72) (by decide) (fun c8 => ?_) (fun c8 => ?_))
              · skip
                replace hok := mm_okp hok c8
                refine a_go (by decide) (v_aload_n d_MO_newest_72 rfl ?_)
                refine a_go (by decide) (v_getR d_MO_newest_73 rfl rfl rfl ?_)
                refine a_go (by decide) (v_iload_n d_MO_newest_76 rfl ?_)
                refine a_go (by decide) (v_bipush d_MO_newest_77 kb_6 ?_)
                refine a_go (by decide) (v_iadd d_MO_newest_79 ?_)
                have o5 := And.left hok
                replace hok := And.right hok
                refine a_go (by decide) (v_iaload d_MO_newest_80 (by decide) rfl o5 ?_)
                refine a_go (by decide) (v_iconst d_MO_newest_81 ki_4 ?_)
                refine a_go (by decide) (v_icmp_ge d_MO_newest_82 (t := 89) (by decide) (fun c9 => ?_) (fun c9 => ?_))
                · skip
                  replace hok := mm_okp hok c9
                  refine a_go (by decide) (v_iconst d_MO_newest_89 ki_0 ?_)
                  refine a_go (by decide) (v_istore_n d_MO_newest_90 (by decide) ?_)
                  refine a_go (by decide) (v_iload_n d_MO_newest_91 rfl ?_)
                  refine a_go (by decide) (v_if_eq d_MO_newest_92 (t := 126) (by decide) (fun c10 => ?_) (fun c10 => absurd c10 (by decide)))
                  refine a_go (by decide) (v_iinc d_MO_newest_126 (by decide) rfl ki_16 ?_)
                  refine a_go (by decide) (v_goto d_MO_newest_129 (t := 4) (by decide) ?_)
                  refine a_cut (by decide) ⟨rfl, _, [(0, _), (1, _), (2, _)], ?_, (mm_all_c rfl (mm_all_c rfl (mm_all_c rfl (mm_all_n)))), ⟨rfl, _, _, _, rfl, rfl, hok, (mm_mvV hk (mm_ifn c1 (mm_ifp c2 (mm_ifp c4 (mm_ifn c6 (mm_ifp c8 (mm_ifp c9 rfl)))))))⟩⟩
                  exact Nat.lt_succ_self _
                · skip
                  replace hok := mm_okn hok c9
                  refine a_go (by decide) (v_iconst d_MO_newest_85 ki_1 ?_)
                  refine a_go (by decide) (v_goto d_MO_newest_86 (t := 90) (by decide) ?_)
                  refine a_go (by decide) (v_istore_n d_MO_newest_90 (by decide) ?_)
                  refine a_go (by decide) (v_iload_n d_MO_newest_91 rfl ?_)
                  refine a_go (by decide) (v_if_eq d_MO_newest_92 (t := 126) (by decide) (fun c11 => absurd c11 (by decide)) (fun c11 => ?_))
                  refine a_go (by decide) (v_iload_n d_MO_newest_95 rfl ?_)
                  refine a_go (by decide) (v_iconst d_MO_newest_96 ki_m1 ?_)
                  refine a_go (by decide) (v_icmp_eq d_MO_newest_97 (t := 124) (by decide) (fun c12 => ?_) (fun c12 => ?_))
                  · skip
                    replace hok := mm_okp hok c12
                    refine a_go (by decide) (v_iload_n d_MO_newest_124 rfl ?_)
                    refine a_go (by decide) (v_istore_n d_MO_newest_125 (by decide) ?_)
                    refine a_go (by decide) (v_iinc d_MO_newest_126 (by decide) rfl ki_16 ?_)
                    refine a_go (by decide) (v_goto d_MO_newest_129 (t := 4) (by decide) ?_)
                    refine a_cut (by decide) ⟨rfl, _, [(0, _), (1, _), (2, _)], ?_, (mm_all_c rfl (mm_all_c rfl (mm_all_c rfl (mm_all_n)))), ⟨rfl, _, _, _, rfl, rfl, hok, (mm_mvV hk (mm_ifn c1 (mm_ifp c2 (mm_ifp c4 (mm_ifn c6 (mm_ifp c8 (mm_ifn c9 (mm_ifp c12 rfl))))))))⟩⟩
                    exact Nat.lt_succ_self _
                  · skip
                    replace hok := mm_okn hok c12
                    refine a_go (by decide) (v_aload_n d_MO_newest_100 rfl ?_)
                    refine a_go (by decide) (v_aload_n d_MO_newest_101 rfl ?_)
                    refine a_go (by decide) (v_getR d_MO_newest_102 rfl rfl rfl ?_)
                    refine a_go (by decide) (v_iload_n d_MO_newest_105 rfl ?_)
                    refine a_go (by decide) (v_iconst d_MO_newest_106 ki_4 ?_)
                    refine a_go (by decide) (v_callV d_MO_newest_107 rfl (mm_spl 4 rfl) rfl (Nat.le_of_ble_eq_true rfl) rfl ?_)
                    have o6 := And.left hok
                    replace hok := And.right hok
                    refine (i_m_read rfl o6 ?_)
                    refine a_go (by decide) (v_aload_n d_MO_newest_110 rfl ?_)
                    refine a_go (by decide) (v_aload_n d_MO_newest_111 rfl ?_)
                    refine a_go (by decide) (v_getR d_MO_newest_112 rfl rfl rfl ?_)
                    refine a_go (by decide) (v_iload_n d_MO_newest_115 rfl ?_)
                    refine a_go (by decide) (v_iconst d_MO_newest_116 ki_4 ?_)
                    refine a_go (by decide) (v_callV d_MO_newest_117 rfl (mm_spl 4 rfl) rfl (Nat.le_of_ble_eq_true rfl) rfl ?_)
                    have o7 := And.left hok
                    replace hok := And.right hok
                    refine (i_m_read rfl o7 ?_)
                    refine a_go (by decide) (v_lcmp d_MO_newest_120 ?_)
                    refine a_go (by decide) (v_if_le d_MO_newest_121 (t := 126) (by decide) (fun c13 => ?_) (fun c13 => ?_))
                    · skip
                      replace hok := mm_okp hok c13
                      refine a_go (by decide) (v_iinc d_MO_newest_126 (by decide) rfl ki_16 ?_)
                      refine a_go (by decide) (v_goto d_MO_newest_129 (t := 4) (by decide) ?_)
                      refine a_cut (by decide) ⟨rfl, _, [(0, _), (1, _), (2, _)], ?_, (mm_all_c rfl (mm_all_c rfl (mm_all_c rfl (mm_all_n)))), ⟨rfl, _, _, _, rfl, rfl, hok, (mm_mvV hk (mm_ifn c1 (mm_ifp c2 (mm_ifp c4 (mm_ifn c6 (mm_ifp c8 (mm_ifn c9 (mm_ifn c12 (mm_ifp c13 rfl)))))))))⟩⟩
                      exact Nat.lt_succ_self _
                    · skip
                      replace hok := mm_okn hok c13
                      refine a_go (by decide) (v_iload_n d_MO_newest_124 rfl ?_)
                      refine a_go (by decide) (v_istore_n d_MO_newest_125 (by decide) ?_)
                      refine a_go (by decide) (v_iinc d_MO_newest_126 (by decide) rfl ki_16 ?_)
                      refine a_go (by decide) (v_goto d_MO_newest_129 (t := 4) (by decide) ?_)
                      refine a_cut (by decide) ⟨rfl, _, [(0, _), (1, _), (2, _)], ?_, (mm_all_c rfl (mm_all_c rfl (mm_all_c rfl (mm_all_n)))), ⟨rfl, _, _, _, rfl, rfl, hok, (mm_mvV hk (mm_ifn c1 (mm_ifp c2 (mm_ifp c4 (mm_ifn c6 (mm_ifp c8 (mm_ifn c9 (mm_ifn c12 (mm_ifn c13 rfl)))))))))⟩⟩
                      exact Nat.lt_succ_self _
              · skip
                replace hok := mm_okn hok c8
                refine a_go (by decide) (v_aload_n d_MO_newest_58 rfl ?_)
                refine a_go (by decide) (v_getR d_MO_newest_59 rfl rfl rfl ?_)
                refine a_go (by decide) (v_iload_n d_MO_newest_62 rfl ?_)
                refine a_go (by decide) (v_iconst d_MO_newest_63 ki_5 ?_)
                refine a_go (by decide) (v_iadd d_MO_newest_64 ?_)
                have o8 := And.left hok
                replace hok := And.right hok
                refine a_go (by decide) (v_iaload d_MO_newest_65 (by decide) rfl o8 ?_)
                refine a_go (by decide) (v_sipush d_MO_newest_66 ks_255 ?_)
                refine a_go (by decide) (v_icmp_ne d_MO_newest_69 (t := 89) (by decide) (fun c14 => ?_) (fun c14 => ?_))
                · skip
                  replace hok := mm_okn hok c14
                  refine a_go (by decide) (v_iconst d_MO_newest_89 ki_0 ?_)
                  refine a_go (by decide) (v_istore_n d_MO_newest_90 (by decide) ?_)
                  refine a_go (by decide) (v_iload_n d_MO_newest_91 rfl ?_)
                  refine a_go (by decide) (v_if_eq d_MO_newest_92 (t := 126) (by decide) (fun c15 => ?_) (fun c15 => absurd c15 (by decide)))
                  refine a_go (by decide) (v_iinc d_MO_newest_126 (by decide) rfl ki_16 ?_)
                  refine a_go (by decide) (v_goto d_MO_newest_129 (t := 4) (by decide) ?_)
                  refine a_cut (by decide) ⟨rfl, _, [(0, _), (1, _), (2, _)], ?_, (mm_all_c rfl (mm_all_c rfl (mm_all_c rfl (mm_all_n)))), ⟨rfl, _, _, _, rfl, rfl, hok, (mm_mvV hk (mm_ifn c1 (mm_ifp c2 (mm_ifp c4 (mm_ifn c6 (mm_ifn c8 (mm_ifn c14 rfl)))))))⟩⟩
                  exact Nat.lt_succ_self _
                · skip
                  replace hok := mm_okp hok c14
                  refine a_go (by decide) (v_aload_n d_MO_newest_72 rfl ?_)
                  refine a_go (by decide) (v_getR d_MO_newest_73 rfl rfl rfl ?_)
                  refine a_go (by decide) (v_iload_n d_MO_newest_76 rfl ?_)
                  refine a_go (by decide) (v_bipush d_MO_newest_77 kb_6 ?_)
                  refine a_go (by decide) (v_iadd d_MO_newest_79 ?_)
                  have o9 := And.left hok
                  replace hok := And.right hok
                  refine a_go (by decide) (v_iaload d_MO_newest_80 (by decide) rfl o9 ?_)
                  refine a_go (by decide) (v_iconst d_MO_newest_81 ki_4 ?_)
                  refine a_go (by decide) (v_icmp_ge d_MO_newest_82 (t := 89) (by decide) (fun c16 => ?_) (fun c16 => ?_))
                  · skip
                    replace hok := mm_okp hok c16
                    refine a_go (by decide) (v_iconst d_MO_newest_89 ki_0 ?_)
                    refine a_go (by decide) (v_istore_n d_MO_newest_90 (by decide) ?_)
                    refine a_go (by decide) (v_iload_n d_MO_newest_91 rfl ?_)
                    refine a_go (by decide) (v_if_eq d_MO_newest_92 (t := 126) (by decide) (fun c17 => ?_) (fun c17 => absurd c17 (by decide)))
                    refine a_go (by decide) (v_iinc d_MO_newest_126 (by decide) rfl ki_16 ?_)
                    refine a_go (by decide) (v_goto d_MO_newest_129 (t := 4) (by decide) ?_)
                    refine a_cut (by decide) ⟨rfl, _, [(0, _), (1, _), (2, _)], ?_, (mm_all_c rfl (mm_all_c rfl (mm_all_c rfl (mm_all_n)))), ⟨rfl, _, _, _, rfl, rfl, hok, (mm_mvV hk (mm_ifn c1 (mm_ifp c2 (mm_ifp c4 (mm_ifn c6 (mm_ifn c8 (mm_ifp c14 (mm_ifp c16 rfl))))))))⟩⟩
                    exact Nat.lt_succ_self _
                  · skip
                    replace hok := mm_okn hok c16
                    refine a_go (by decide) (v_iconst d_MO_newest_85 ki_1 ?_)
                    refine a_go (by decide) (v_goto d_MO_newest_86 (t := 90) (by decide) ?_)
                    refine a_go (by decide) (v_istore_n d_MO_newest_90 (by decide) ?_)
                    refine a_go (by decide) (v_iload_n d_MO_newest_91 rfl ?_)
                    refine a_go (by decide) (v_if_eq d_MO_newest_92 (t := 126) (by decide) (fun c18 => absurd c18 (by decide)) (fun c18 => ?_))
                    refine a_go (by decide) (v_iload_n d_MO_newest_95 rfl ?_)
                    refine a_go (by decide) (v_iconst d_MO_newest_96 ki_m1 ?_)
                    refine a_go (by decide) (v_icmp_eq d_MO_newest_97 (t := 124) (by decide) (fun c19 => ?_) (fun c19 => ?_))
                    · skip
                      replace hok := mm_okp hok c19
                      refine a_go (by decide) (v_iload_n d_MO_newest_124 rfl ?_)
                      refine a_go (by decide) (v_istore_n d_MO_newest_125 (by decide) ?_)
                      refine a_go (by decide) (v_iinc d_MO_newest_126 (by decide) rfl ki_16 ?_)
                      refine a_go (by decide) (v_goto d_MO_newest_129 (t := 4) (by decide) ?_)
                      refine a_cut (by decide) ⟨rfl, _, [(0, _), (1, _), (2, _)], ?_, (mm_all_c rfl (mm_all_c rfl (mm_all_c rfl (mm_all_n)))), ⟨rfl, _, _, _, rfl, rfl, hok, (mm_mvV hk (mm_ifn c1 (mm_ifp c2 (mm_ifp c4 (mm_ifn c6 (mm_ifn c8 (mm_ifp c14 (mm_ifn c16 (mm_ifp c19 rfl)))))))))⟩⟩
                      exact Nat.lt_succ_self _
                    · skip
                      replace hok := mm_okn hok c19
                      refine a_go (by decide) (v_aload_n d_MO_newest_100 rfl ?_)
                      refine a_go (by decide) (v_aload_n d_MO_newest_101 rfl ?_)
                      refine a_go (by decide) (v_getR d_MO_newest_102 rfl rfl rfl ?_)
                      refine a_go (by decide) (v_iload_n d_MO_newest_105 rfl ?_)
                      refine a_go (by decide) (v_iconst d_MO_newest_106 ki_4 ?_)
                      refine a_go (by decide) (v_callV d_MO_newest_107 rfl (mm_spl 4 rfl) rfl (Nat.le_of_ble_eq_true rfl) rfl ?_)
                      have o10 := And.left hok
                      replace hok := And.right hok
                      refine (i_m_read rfl o10 ?_)
                      refine a_go (by decide) (v_aload_n d_MO_newest_110 rfl ?_)
                      refine a_go (by decide) (v_aload_n d_MO_newest_111 rfl ?_)
                      refine a_go (by decide) (v_getR d_MO_newest_112 rfl rfl rfl ?_)
                      refine a_go (by decide) (v_iload_n d_MO_newest_115 rfl ?_)
                      refine a_go (by decide) (v_iconst d_MO_newest_116 ki_4 ?_)
                      refine a_go (by decide) (v_callV d_MO_newest_117 rfl (mm_spl 4 rfl) rfl (Nat.le_of_ble_eq_true rfl) rfl ?_)
                      have o11 := And.left hok
                      replace hok := And.right hok
                      refine (i_m_read rfl o11 ?_)
                      refine a_go (by decide) (v_lcmp d_MO_newest_120 ?_)
                      refine a_go (by decide) (v_if_le d_MO_newest_121 (t := 126) (by decide) (fun c20 => ?_) (fun c20 => ?_))
                      · skip
                        replace hok := mm_okp hok c20
                        refine a_go (by decide) (v_iinc d_MO_newest_126 (by decide) rfl ki_16 ?_)
                        refine a_go (by decide) (v_goto d_MO_newest_129 (t := 4) (by decide) ?_)
                        refine a_cut (by decide) ⟨rfl, _, [(0, _), (1, _), (2, _)], ?_, (mm_all_c rfl (mm_all_c rfl (mm_all_c rfl (mm_all_n)))), ⟨rfl, _, _, _, rfl, rfl, hok, (mm_mvV hk (mm_ifn c1 (mm_ifp c2 (mm_ifp c4 (mm_ifn c6 (mm_ifn c8 (mm_ifp c14 (mm_ifn c16 (mm_ifn c19 (mm_ifp c20 rfl))))))))))⟩⟩
                        exact Nat.lt_succ_self _
                      · skip
                        replace hok := mm_okn hok c20
                        refine a_go (by decide) (v_iload_n d_MO_newest_124 rfl ?_)
                        refine a_go (by decide) (v_istore_n d_MO_newest_125 (by decide) ?_)
                        refine a_go (by decide) (v_iinc d_MO_newest_126 (by decide) rfl ki_16 ?_)
                        refine a_go (by decide) (v_goto d_MO_newest_129 (t := 4) (by decide) ?_)
                        refine a_cut (by decide) ⟨rfl, _, [(0, _), (1, _), (2, _)], ?_, (mm_all_c rfl (mm_all_c rfl (mm_all_c rfl (mm_all_n)))), ⟨rfl, _, _, _, rfl, rfl, hok, (mm_mvV hk (mm_ifn c1 (mm_ifp c2 (mm_ifp c4 (mm_ifn c6 (mm_ifn c8 (mm_ifp c14 (mm_ifn c16 (mm_ifn c19 (mm_ifn c20 rfl))))))))))⟩⟩
                        exact Nat.lt_succ_self _
-- TwoSlotsModel.isRight([II)Z
def l_m_isRight_115 (k : Nat) (n0 : Nat) (r0 : Nat) (u2 : Int32) (u3 : Int32) (u4 : Int64) (u6 : Int32) (x : mm_S) : Int32 := match k with
  | 0 => 0
  | k + 1 =>
    if (56 : Int32) ≤ u6 then
      let y2 := e_m_newest x
      if y2 = (-1 : Int32) then
        if u3 = (0 : Int32) then
          (0 : Int32)
        else
          if (lg_cmp u4 (e_m_read n0 r0 (u2 + (56 : Int32)) (8 : Int32) x)) = (0 : Int32) then
            (1 : Int32)
          else
            (0 : Int32)
      else
        if (((x.2.2 10 (Int32.toNatClampNeg (y2 + (7 : Int32)))) >>> ((x.2.2 r0 (Int32.toNatClampNeg (u2 + (12 : Int32)))) &&& 31)) &&& (1 : Int32)) = (1 : Int32) then
          if u3 = (0 : Int32) then
            (0 : Int32)
          else
            if (lg_cmp u4 (e_m_read n0 r0 (u2 + (56 : Int32)) (8 : Int32) x)) = (0 : Int32) then
              (0 : Int32)
            else
              (0 : Int32)
        else
          if u3 = (0 : Int32) then
            (0 : Int32)
          else
            if (lg_cmp u4 (e_m_read n0 r0 (u2 + (56 : Int32)) (8 : Int32) x)) = (0 : Int32) then
              (1 : Int32)
            else
              (0 : Int32)
    else
      let y3 := e_m_digested u4 (x.2.2 r0 (Int32.toNatClampNeg (u2 + u6))) x
      l_m_isRight_115 (k) n0 r0 u2 u3 y3 (u6 + (1 : Int32)) x
def okl_m_isRight_115 (k : Nat) (n0 : Nat) (r0 : Nat) (u2 : Int32) (u3 : Int32) (u4 : Int64) (u6 : Int32) (x : mm_S) : Prop := match k with
  | 0 => False
  | k + 1 => if (56 : Int32) ≤ u6 then ((ok_m_newest  x) ∧ (let y2 := e_m_newest x; if y2 = (-1 : Int32) then (if u3 = (0 : Int32) then (True) else ((ok_m_read n0 r0 (u2 + (56 : Int32)) (8 : Int32) x) ∧ (if (lg_cmp u4 (e_m_read n0 r0 (u2 + (56 : Int32)) (8 : Int32) x)) = (0 : Int32) then (True) else (True)))) else ((vp_in (y2 + (7 : Int32)) 4096) ∧ ((vp_in (u2 + (12 : Int32)) n0) ∧ (if (((x.2.2 10 (Int32.toNatClampNeg (y2 + (7 : Int32)))) >>> ((x.2.2 r0 (Int32.toNatClampNeg (u2 + (12 : Int32)))) &&& 31)) &&& (1 : Int32)) = (1 : Int32) then (if u3 = (0 : Int32) then (True) else ((ok_m_read n0 r0 (u2 + (56 : Int32)) (8 : Int32) x) ∧ (if (lg_cmp u4 (e_m_read n0 r0 (u2 + (56 : Int32)) (8 : Int32) x)) = (0 : Int32) then (True) else (True)))) else (if u3 = (0 : Int32) then (True) else ((ok_m_read n0 r0 (u2 + (56 : Int32)) (8 : Int32) x) ∧ (if (lg_cmp u4 (e_m_read n0 r0 (u2 + (56 : Int32)) (8 : Int32) x)) = (0 : Int32) then (True) else (True))))))))) else ((vp_in (u2 + u6) n0) ∧ (let y3 := e_m_digested u4 (x.2.2 r0 (Int32.toNatClampNeg (u2 + u6))) x; okl_m_isRight_115 (k) n0 r0 u2 u3 y3 (u6 + (1 : Int32)) x))
def l_m_isRight_68 (k : Nat) (n0 : Nat) (r0 : Nat) (u2 : Int32) (u3 : Int32) (u4 : Int32) (x : mm_S) : Int32 := match k with
  | 0 => 0
  | k + 1 =>
    if (56 : Int32) ≤ u4 then
      let y1 := e_m_numberOf (x.2.2 r0 (Int32.toNatClampNeg (u2 + (12 : Int32)))) x
      l_m_isRight_115 (mm_fu (0 : Int32) 56) n0 r0 u2 u3 y1 (0 : Int32) x
    else
      if u3 = (0 : Int32) then
        l_m_isRight_68 (k) n0 r0 u2 (0 : Int32) (u4 + (1 : Int32)) x
      else
        if (x.2.2 r0 (Int32.toNatClampNeg (u2 + u4))) = (0 : Int32) then
          l_m_isRight_68 (k) n0 r0 u2 (1 : Int32) (u4 + (1 : Int32)) x
        else
          l_m_isRight_68 (k) n0 r0 u2 (0 : Int32) (u4 + (1 : Int32)) x
def okl_m_isRight_68 (k : Nat) (n0 : Nat) (r0 : Nat) (u2 : Int32) (u3 : Int32) (u4 : Int32) (x : mm_S) : Prop := match k with
  | 0 => False
  | k + 1 => if (56 : Int32) ≤ u4 then ((vp_in (u2 + (12 : Int32)) n0) ∧ (let y1 := e_m_numberOf (x.2.2 r0 (Int32.toNatClampNeg (u2 + (12 : Int32)))) x; okl_m_isRight_115 (mm_fu (0 : Int32) 56) n0 r0 u2 u3 y1 (0 : Int32) x)) else (if u3 = (0 : Int32) then (okl_m_isRight_68 (k) n0 r0 u2 (0 : Int32) (u4 + (1 : Int32)) x) else ((vp_in (u2 + u4) n0) ∧ (if (x.2.2 r0 (Int32.toNatClampNeg (u2 + u4))) = (0 : Int32) then (okl_m_isRight_68 (k) n0 r0 u2 (1 : Int32) (u4 + (1 : Int32)) x) else (okl_m_isRight_68 (k) n0 r0 u2 (0 : Int32) (u4 + (1 : Int32)) x))))
def e_m_isRight (n0 : Nat) (r0 : Nat) (v1 : Int32) (x : mm_S) : Int32 :=
  if (lg_cmp (e_m_read n0 r0 v1 (4 : Int32) x) (1415008083 : Int64)) = (0 : Int32) then
    if (e_m_in (e_m_read n0 r0 (v1 + (8 : Int32)) (4 : Int32) x) (1 : Int64) (30 : Int64) x) = (0 : Int32) then
      (0 : Int32)
    else
      if (3 : Int32) < (x.2.2 r0 (Int32.toNatClampNeg (v1 + (12 : Int32)))) then
        (0 : Int32)
      else
        if (lg_cmp (e_m_read n0 r0 (v1 + (13 : Int32)) (7 : Int32) x) (0 : Int64)) = (0 : Int32) then
          l_m_isRight_68 (mm_fu (28 : Int32) 56) n0 r0 v1 (1 : Int32) (28 : Int32) x
        else
          (0 : Int32)
  else
    (0 : Int32)
def ok_m_isRight (n0 : Nat) (r0 : Nat) (v1 : Int32) (x : mm_S) : Prop := (ok_m_read n0 r0 v1 (4 : Int32) x) ∧ (if (lg_cmp (e_m_read n0 r0 v1 (4 : Int32) x) (1415008083 : Int64)) = (0 : Int32) then ((ok_m_read n0 r0 (v1 + (8 : Int32)) (4 : Int32) x) ∧ (if (e_m_in (e_m_read n0 r0 (v1 + (8 : Int32)) (4 : Int32) x) (1 : Int64) (30 : Int64) x) = (0 : Int32) then (True) else ((vp_in (v1 + (12 : Int32)) n0) ∧ (if (3 : Int32) < (x.2.2 r0 (Int32.toNatClampNeg (v1 + (12 : Int32)))) then (True) else ((ok_m_read n0 r0 (v1 + (13 : Int32)) (7 : Int32) x) ∧ (if (lg_cmp (e_m_read n0 r0 (v1 + (13 : Int32)) (7 : Int32) x) (0 : Int64)) = (0 : Int32) then (okl_m_isRight_68 (mm_fu (28 : Int32) 56) n0 r0 v1 (1 : Int32) (28 : Int32) x) else (True))))))) else (True))
def S_m_isRight : mm_P := fun as x K => ∃ (a0 n0 r0 : Nat) (v1 : Int32), as = [.ref 11, .ref a0, .int v1] ∧ mm_ar LL a0 = some (1, n0, r0) ∧ (ok_m_isRight n0 r0 v1 x) ∧ K (some (.int (e_m_isRight n0 r0 v1 x))) x
theorem i_m_isRight {a0 n0 r0 : Nat} {v1 : Int32} {x : mm_S} {K : mm_K} (ha0 : mm_ar LL a0 = some (1, n0, r0)) (hpre : (ok_m_isRight n0 r0 v1 x)) (hk : K (some (.int (e_m_isRight n0 r0 v1 x))) x) : S_m_isRight [.ref 11, .ref a0, .int v1] x K := ⟨_, _, _, _, rfl, ha0, hpre, hk⟩
def G_m_isRight : mm_G := (FT_MO, CI_MO, CJ_MO, mm_tb [(76, 3, S_m_in), (44, 2, S_m_digested)], mm_tb [(68, 4, 5, S_m_read), (64, 2, 5, S_m_numberOf), (80, 1, 5, S_m_newest)], none)
def rm_m_isRight : Room := { frames := 2, cells := 0, slots := 0, locals := 49 }
abbrev Inv_m_isRight : mm_K → List Value → mm_S → Nat → Nat → mm_V → mm_S → Prop := fun K _ _ k pc lv x => (pc = 68 ∧ ∃ (f : Nat) (a0 n0 r0 : Nat) (u2 : Int32) (u3 : Int32) (u4 : Int32), k = f + 100 ∧ lv = [(0, .ref 11), (1, .ref a0), (2, .int u2), (3, .int u3), (4, .int u4)] ∧ mm_ar LL a0 = some (1, n0, r0) ∧ okl_m_isRight_68 f n0 r0 u2 u3 u4 x ∧ K (some (.int (l_m_isRight_68 f n0 r0 u2 u3 u4 x))) x) ∨ (pc = 115 ∧ ∃ (f : Nat) (a0 n0 r0 : Nat) (u2 : Int32) (u3 : Int32) (u4 : Int64) (u6 : Int32), k = f + 0 ∧ lv = [(0, .ref 11), (1, .ref a0), (2, .int u2), (3, .int u3), (4, .long u4), (6, .int u6)] ∧ mm_ar LL a0 = some (1, n0, r0) ∧ okl_m_isRight_115 f n0 r0 u2 u3 u4 u6 x ∧ K (some (.int (l_m_isRight_115 f n0 r0 u2 u3 u4 u6 x))) x)
set_option maxHeartbeats 40000000 in
set_option maxRecDepth 10000 in
theorem c_m_isRight (l : Launch) : mm_Con l NW CL TB LL y_MO_isRight b_MO_isRight 8 (some .boolean) rm_m_isRight S_m_isRight := by
  refine mm_con G_m_isRight [68, 115] Inv_m_isRight (by decide +kernel) tb_good LL_u nw_nest ?_ rfl ft_MO ci_MO cj_MO ?_ ?_ ?_ ?_
  · rintro as x K ⟨a0, n0, r0, v1, rfl, -⟩
    exact Nat.le_of_ble_eq_true rfl
  · exact mm_tb_e (List.forall_mem_cons.mpr ⟨mm_cst_i (c_m_in l) (mm_cb_i rfl rfl (by decide) (by decide) tc_MO_in ti_MO ⟨by decide, by decide, by decide +kernel⟩ (Or.inl tl_MO_76)) ts_MO_in, List.forall_mem_cons.mpr ⟨mm_cst_i (c_m_digested l) (mm_cb_i rfl rfl (by decide) (by decide) tc_MO_digested ti_MO ⟨by decide, by decide, by decide +kernel⟩ (Or.inl tl_MO_44)) ts_MO_digested, fun _ h => absurd h List.not_mem_nil⟩⟩)
  · exact mm_tb_e (List.forall_mem_cons.mpr ⟨mm_cvt_i (c_m_read l) (mm_cb_i rfl rfl (by decide) (by decide) tc_MO_read ti_MO ⟨by decide, by decide, by decide +kernel⟩ (Or.inl tl_MO_68)) rfl tv_MO_read tx_MO_read, List.forall_mem_cons.mpr ⟨mm_cvt_i (c_m_numberOf l) (mm_cb_i rfl rfl (by decide) (by decide) tc_MO_numberOf ti_MO ⟨by decide, by decide, by decide +kernel⟩ (Or.inl tl_MO_64)) rfl tv_MO_numberOf tx_MO_numberOf, List.forall_mem_cons.mpr ⟨mm_cvt_i (c_m_newest l) (mm_cb_i rfl rfl (by decide) (by decide) tc_MO_newest ti_MO ⟨by decide, by decide, by decide +kernel⟩ (Or.inl tl_MO_80)) rfl tv_MO_newest tx_MO_newest, fun _ h => absurd h List.not_mem_nil⟩⟩⟩)
  · rintro as x K ⟨a0, n0, r0, v1, rfl, ha0, hok, hk⟩
    refine ⟨400, ?_⟩
    refine v_aload_n d_MO_isRight_0 rfl ?_
    refine a_go (by decide) (v_aload_n d_MO_isRight_1 rfl ?_)
    refine a_go (by decide) (v_iload_n d_MO_isRight_2 rfl ?_)
    refine a_go (by decide) (v_iconst d_MO_isRight_3 ki_4 ?_)
    refine a_go (by decide) (v_callV d_MO_isRight_4 rfl (mm_spl 4 rfl) rfl (Nat.le_of_ble_eq_true rfl) rfl ?_)
    have o1 := And.left hok
    replace hok := And.right hok
    refine (i_m_read ha0 o1 ?_)
    refine a_go (by decide) (v_ldc2 d_MO_isRight_7 rfl ?_)
    refine a_go (by decide) (v_lcmp d_MO_isRight_10 ?_)
    refine a_go (by decide) (v_if_ne d_MO_isRight_11 (t := 60) (by decide) (fun c1 => ?_) (fun c1 => ?_))
    · skip
      replace hok := mm_okn hok c1
      refine a_go (by decide) (v_iconst d_MO_isRight_60 ki_0 ?_)
      refine a_go (by decide) (v_zreturn d_MO_isRight_61 rfl (by decide) ?_)
      exact mm_fiV hk (mm_ifn c1 rfl)
    · skip
      replace hok := mm_okp hok c1
      refine a_go (by decide) (v_aload_n d_MO_isRight_14 rfl ?_)
      refine a_go (by decide) (v_aload_n d_MO_isRight_15 rfl ?_)
      refine a_go (by decide) (v_iload_n d_MO_isRight_16 rfl ?_)
      refine a_go (by decide) (v_bipush d_MO_isRight_17 kb_8 ?_)
      refine a_go (by decide) (v_iadd d_MO_isRight_19 ?_)
      refine a_go (by decide) (v_iconst d_MO_isRight_20 ki_4 ?_)
      refine a_go (by decide) (v_callV d_MO_isRight_21 rfl (mm_spl 4 rfl) rfl (Nat.le_of_ble_eq_true rfl) rfl ?_)
      have o2 := And.left hok
      replace hok := And.right hok
      refine (i_m_read ha0 o2 ?_)
      refine a_go (by decide) (v_lconst d_MO_isRight_24 kl_1 ?_)
      refine a_go (by decide) (v_ldc2 d_MO_isRight_25 rfl ?_)
      refine a_go (by decide) (v_callS d_MO_isRight_28 rfl (mm_spl 3 rfl) rfl (Nat.le_of_ble_eq_true rfl) ?_)
      refine (i_m_in ?_)
      refine a_go (by decide) (v_if_eq d_MO_isRight_31 (t := 60) (by decide) (fun c2 => ?_) (fun c2 => ?_))
      · skip
        replace hok := mm_okp hok c2
        refine a_go (by decide) (v_iconst d_MO_isRight_60 ki_0 ?_)
        refine a_go (by decide) (v_zreturn d_MO_isRight_61 rfl (by decide) ?_)
        exact mm_fiV hk (mm_ifp c1 (mm_ifp c2 rfl))
      · skip
        replace hok := mm_okn hok c2
        refine a_go (by decide) (v_aload_n d_MO_isRight_34 rfl ?_)
        refine a_go (by decide) (v_iload_n d_MO_isRight_35 rfl ?_)
        refine a_go (by decide) (v_bipush d_MO_isRight_36 kb_12 ?_)
        refine a_go (by decide) (v_iadd d_MO_isRight_38 ?_)
        have o3 := And.left hok
        replace hok := And.right hok
        refine a_go (by decide) (v_iaload d_MO_isRight_39 (LL_n ha0).2 ha0 o3 ?_)
        refine a_go (by decide) (v_iconst d_MO_isRight_40 ki_3 ?_)
        refine a_go (by decide) (v_icmp_gt d_MO_isRight_41 (t := 60) (by decide) (fun c3 => ?_) (fun c3 => ?_))
        · skip
          replace hok := mm_okp hok c3
          refine a_go (by decide) (v_iconst d_MO_isRight_60 ki_0 ?_)
          refine a_go (by decide) (v_zreturn d_MO_isRight_61 rfl (by decide) ?_)
          exact mm_fiV hk (mm_ifp c1 (mm_ifn c2 (mm_ifp c3 rfl)))
        · skip
          replace hok := mm_okn hok c3
          refine a_go (by decide) (v_aload_n d_MO_isRight_44 rfl ?_)
          refine a_go (by decide) (v_aload_n d_MO_isRight_45 rfl ?_)
          refine a_go (by decide) (v_iload_n d_MO_isRight_46 rfl ?_)
          refine a_go (by decide) (v_bipush d_MO_isRight_47 kb_13 ?_)
          refine a_go (by decide) (v_iadd d_MO_isRight_49 ?_)
          refine a_go (by decide) (v_bipush d_MO_isRight_50 kb_7 ?_)
          refine a_go (by decide) (v_callV d_MO_isRight_52 rfl (mm_spl 4 rfl) rfl (Nat.le_of_ble_eq_true rfl) rfl ?_)
          have o4 := And.left hok
          replace hok := And.right hok
          refine (i_m_read ha0 o4 ?_)
          refine a_go (by decide) (v_lconst d_MO_isRight_55 kl_0 ?_)
          refine a_go (by decide) (v_lcmp d_MO_isRight_56 ?_)
          refine a_go (by decide) (v_if_eq d_MO_isRight_57 (t := 62) (by decide) (fun c4 => ?_) (fun c4 => ?_))
          · skip
            replace hok := mm_okp hok c4
            refine a_go (by decide) (v_iconst d_MO_isRight_62 ki_1 ?_)
            refine a_go (by decide) (v_istore_n d_MO_isRight_63 (by decide) ?_)
            refine a_go (by decide) (v_bipush d_MO_isRight_64 kb_28 ?_)
            refine a_go (by decide) (v_istore d_MO_isRight_66 (by decide) ?_)
            refine a_cut (by decide) ⟨rfl, _, [(0, _), (1, _), (2, _), (3, _), (4, _)], (mm_all_c rfl (mm_all_c rfl (mm_all_c rfl (mm_all_c rfl (mm_all_c rfl (mm_all_n)))))), (Or.inl (⟨rfl, _, _, _, _, _, _, _, rfl, rfl, ha0, hok, (mm_mvV hk (mm_ifp c1 (mm_ifn c2 (mm_ifn c3 (mm_ifp c4 rfl)))))⟩))⟩
          · skip
            replace hok := mm_okn hok c4
            refine a_go (by decide) (v_iconst d_MO_isRight_60 ki_0 ?_)
            refine a_go (by decide) (v_zreturn d_MO_isRight_61 rfl (by decide) ?_)
            exact mm_fiV hk (mm_ifp c1 (mm_ifn c2 (mm_ifn c3 (mm_ifn c4 rfl))))
  · rintro as x0 K - k pc lv x - hinv
    rcases hinv with hinv | hinv
    · skip
      obtain ⟨rfl, f, a0, n0, r0, u2, u3, u4, hkf, rfl, ha0, hok, hk⟩ := hinv
      cases f with
      | zero => exact False.elim hok
      | succ k =>
        subst hkf
        refine ⟨900, ?_⟩
        refine v_iload d_MO_isRight_68 rfl ?_
        refine a_go (by decide) (v_bipush d_MO_isRight_70 kb_56 ?_)
        refine a_go (by decide) (v_icmp_ge d_MO_isRight_72 (t := 100) (by decide) (fun c5 => ?_) (fun c5 => ?_))
        · skip
          replace hok := mm_okp hok c5
          refine a_go (by decide) (v_aload_n d_MO_isRight_100 rfl ?_)
          refine a_go (by decide) (v_aload_n d_MO_isRight_101 rfl ?_)
          refine a_go (by decide) (v_iload_n d_MO_isRight_102 rfl ?_)
          refine a_go (by decide) (v_bipush d_MO_isRight_103 kb_12 ?_)
          refine a_go (by decide) (v_iadd d_MO_isRight_105 ?_)
          have o5 := And.left hok
          replace hok := And.right hok
          refine a_go (by decide) (v_iaload d_MO_isRight_106 (LL_n ha0).2 ha0 o5 ?_)
          refine a_go (by decide) (v_callV d_MO_isRight_107 rfl (mm_spl 2 rfl) rfl (Nat.le_of_ble_eq_true rfl) rfl ?_)
          refine (i_m_numberOf ?_)
          refine a_go (by decide) (v_lstore d_MO_isRight_110 (by decide) ?_)
          refine a_go (by decide) (v_iconst d_MO_isRight_112 ki_0 ?_)
          refine a_go (by decide) (v_istore d_MO_isRight_113 (by decide) ?_)
          refine a_cut (by decide) ⟨rfl, _, [(0, _), (1, _), (2, _), (3, _), (4, _), (6, _)], ?_, (mm_all_c rfl (mm_all_c rfl (mm_all_c rfl (mm_all_c rfl (mm_all_c rfl (mm_all_c rfl (mm_all_n))))))), (Or.inr (⟨rfl, _, _, _, _, _, _, _, _, rfl, rfl, ha0, hok, (mm_mvV hk (mm_ifp c5 rfl))⟩))⟩
          exact mm_fall (by decide)
        · skip
          replace hok := mm_okn hok c5
          refine a_go (by decide) (v_iload_n d_MO_isRight_75 rfl ?_)
          refine a_go (by decide) (v_if_eq d_MO_isRight_76 (t := 92) (by decide) (fun c6 => ?_) (fun c6 => ?_))
          · skip
            replace hok := mm_okp hok c6
            refine a_go (by decide) (v_iconst d_MO_isRight_92 ki_0 ?_)
            refine a_go (by decide) (v_istore_n d_MO_isRight_93 (by decide) ?_)
            refine a_go (by decide) (v_iinc d_MO_isRight_94 (by decide) rfl ki_1 ?_)
            refine a_go (by decide) (v_goto d_MO_isRight_97 (t := 68) (by decide) ?_)
            refine a_cut (by decide) ⟨rfl, _, [(0, _), (1, _), (2, _), (3, _), (4, _)], ?_, (mm_all_c rfl (mm_all_c rfl (mm_all_c rfl (mm_all_c rfl (mm_all_c rfl (mm_all_n)))))), (Or.inl (⟨rfl, _, _, _, _, _, _, _, rfl, rfl, ha0, hok, (mm_mvV hk (mm_ifn c5 (mm_ifp c6 rfl)))⟩))⟩
            exact mm_off _ _
          · skip
            replace hok := mm_okn hok c6
            refine a_go (by decide) (v_aload_n d_MO_isRight_79 rfl ?_)
            refine a_go (by decide) (v_iload_n d_MO_isRight_80 rfl ?_)
            refine a_go (by decide) (v_iload d_MO_isRight_81 rfl ?_)
            refine a_go (by decide) (v_iadd d_MO_isRight_83 ?_)
            have o6 := And.left hok
            replace hok := And.right hok
            refine a_go (by decide) (v_iaload d_MO_isRight_84 (LL_n ha0).2 ha0 o6 ?_)
            refine a_go (by decide) (v_if_ne d_MO_isRight_85 (t := 92) (by decide) (fun c7 => ?_) (fun c7 => ?_))
            · skip
              replace hok := mm_okn hok c7
              refine a_go (by decide) (v_iconst d_MO_isRight_92 ki_0 ?_)
              refine a_go (by decide) (v_istore_n d_MO_isRight_93 (by decide) ?_)
              refine a_go (by decide) (v_iinc d_MO_isRight_94 (by decide) rfl ki_1 ?_)
              refine a_go (by decide) (v_goto d_MO_isRight_97 (t := 68) (by decide) ?_)
              refine a_cut (by decide) ⟨rfl, _, [(0, _), (1, _), (2, _), (3, _), (4, _)], ?_, (mm_all_c rfl (mm_all_c rfl (mm_all_c rfl (mm_all_c rfl (mm_all_c rfl (mm_all_n)))))), (Or.inl (⟨rfl, _, _, _, _, _, _, _, rfl, rfl, ha0, hok, (mm_mvV hk (mm_ifn c5 (mm_ifn c6 (mm_ifn c7 rfl))))⟩))⟩
              exact mm_off _ _
            · skip
              replace hok := mm_okp hok c7
              refine a_go (by decide) (v_iconst d_MO_isRight_88 ki_1 ?_)
              refine a_go (by decide) (v_goto d_MO_isRight_89 (t := 93) (by decide) ?_)
              refine a_go (by decide) (v_istore_n d_MO_isRight_93 (by decide) ?_)
              refine a_go (by decide) (v_iinc d_MO_isRight_94 (by decide) rfl ki_1 ?_)
              refine a_go (by decide) (v_goto d_MO_isRight_97 (t := 68) (by decide) ?_)
              refine a_cut (by decide) ⟨rfl, _, [(0, _), (1, _), (2, _), (3, _), (4, _)], ?_, (mm_all_c rfl (mm_all_c rfl (mm_all_c rfl (mm_all_c rfl (mm_all_c rfl (mm_all_n)))))), (Or.inl (⟨rfl, _, _, _, _, _, _, _, rfl, rfl, ha0, hok, (mm_mvV hk (mm_ifn c5 (mm_ifn c6 (mm_ifp c7 rfl))))⟩))⟩
              exact mm_off _ _
    · skip
      obtain ⟨rfl, f, a0, n0, r0, u2, u3, u4, u6, hkf, rfl, ha0, hok, hk⟩ := hinv
      cases f with
      | zero => exact False.elim hok
      | succ k =>
        subst hkf
        refine ⟨900, ?_⟩
        refine v_iload d_MO_isRight_115 rfl ?_
        refine a_go (by decide) (v_bipush d_MO_isRight_117 kb_56 ?_)
        refine a_go (by decide) (v_icmp_ge d_MO_isRight_119 (t := 141) (by decide) (fun c8 => ?_) (fun c8 => ?_))
        · skip
          replace hok := mm_okp hok c8
          refine a_go (by decide) (v_aload_n d_MO_isRight_141 rfl ?_)
          refine a_go (by decide) (v_callV d_MO_isRight_142 rfl (mm_spl 1 rfl) rfl (Nat.le_of_ble_eq_true rfl) rfl ?_)
          have o7 := And.left hok
          replace hok := And.right hok
          refine (i_m_newest o7 ?_)
          refine a_go (by decide) (v_istore d_MO_isRight_145 (by decide) ?_)
          refine a_go (by decide) (v_iload d_MO_isRight_147 rfl ?_)
          refine a_go (by decide) (v_iconst d_MO_isRight_149 ki_m1 ?_)
          refine a_go (by decide) (v_icmp_eq d_MO_isRight_150 (t := 180) (by decide) (fun c9 => ?_) (fun c9 => ?_))
          · skip
            replace hok := mm_okp hok c9
            refine a_go (by decide) (v_iconst d_MO_isRight_180 ki_0 ?_)
            refine a_go (by decide) (v_istore d_MO_isRight_181 (by decide) ?_)
            refine a_go (by decide) (v_iload_n d_MO_isRight_183 rfl ?_)
            refine a_go (by decide) (v_if_eq d_MO_isRight_184 (t := 213) (by decide) (fun c10 => ?_) (fun c10 => ?_))
            · skip
              replace hok := mm_okp hok c10
              refine a_go (by decide) (v_iconst d_MO_isRight_213 ki_0 ?_)
              refine a_go (by decide) (v_zreturn d_MO_isRight_214 rfl (by decide) ?_)
              exact mm_fiV hk (mm_ifp c8 (mm_ifp c9 (mm_ifp c10 rfl)))
            · skip
              replace hok := mm_okn hok c10
              refine a_go (by decide) (v_lload d_MO_isRight_187 rfl ?_)
              refine a_go (by decide) (v_aload_n d_MO_isRight_189 rfl ?_)
              refine a_go (by decide) (v_aload_n d_MO_isRight_190 rfl ?_)
              refine a_go (by decide) (v_iload_n d_MO_isRight_191 rfl ?_)
              refine a_go (by decide) (v_bipush d_MO_isRight_192 kb_56 ?_)
              refine a_go (by decide) (v_iadd d_MO_isRight_194 ?_)
              refine a_go (by decide) (v_bipush d_MO_isRight_195 kb_8 ?_)
              refine a_go (by decide) (v_callV d_MO_isRight_197 rfl (mm_spl 4 rfl) rfl (Nat.le_of_ble_eq_true rfl) rfl ?_)
              have o8 := And.left hok
              replace hok := And.right hok
              refine (i_m_read ha0 o8 ?_)
              refine a_go (by decide) (v_lcmp d_MO_isRight_200 ?_)
              refine a_go (by decide) (v_if_ne d_MO_isRight_201 (t := 213) (by decide) (fun c11 => ?_) (fun c11 => ?_))
              · skip
                replace hok := mm_okn hok c11
                refine a_go (by decide) (v_iconst d_MO_isRight_213 ki_0 ?_)
                refine a_go (by decide) (v_zreturn d_MO_isRight_214 rfl (by decide) ?_)
                exact mm_fiV hk (mm_ifp c8 (mm_ifp c9 (mm_ifn c10 (mm_ifn c11 rfl))))
              · skip
                replace hok := mm_okp hok c11
                refine a_go (by decide) (v_iload d_MO_isRight_204 rfl ?_)
                refine a_go (by decide) (v_if_ne d_MO_isRight_206 (t := 213) (by decide) (fun c12 => absurd c12 (by decide)) (fun c12 => ?_))
                refine a_go (by decide) (v_iconst d_MO_isRight_209 ki_1 ?_)
                refine a_go (by decide) (v_goto d_MO_isRight_210 (t := 214) (by decide) ?_)
                refine a_go (by decide) (v_zreturn d_MO_isRight_214 rfl (by decide) ?_)
                exact mm_fiV hk (mm_ifp c8 (mm_ifp c9 (mm_ifn c10 (mm_ifp c11 rfl))))
          · skip
            replace hok := mm_okn hok c9
            refine a_go (by decide) (v_aload_n d_MO_isRight_153 rfl ?_)
            refine a_go (by decide) (v_getR d_MO_isRight_154 rfl rfl rfl ?_)
            refine a_go (by decide) (v_iload d_MO_isRight_157 rfl ?_)
            refine a_go (by decide) (v_bipush d_MO_isRight_159 kb_7 ?_)
            refine a_go (by decide) (v_iadd d_MO_isRight_161 ?_)
            have o9 := And.left hok
            replace hok := And.right hok
            refine a_go (by decide) (v_iaload d_MO_isRight_162 (by decide) rfl o9 ?_)
            refine a_go (by decide) (v_aload_n d_MO_isRight_163 rfl ?_)
            refine a_go (by decide) (v_iload_n d_MO_isRight_164 rfl ?_)
            refine a_go (by decide) (v_bipush d_MO_isRight_165 kb_12 ?_)
            refine a_go (by decide) (v_iadd d_MO_isRight_167 ?_)
            have o10 := And.left hok
            replace hok := And.right hok
            refine a_go (by decide) (v_iaload d_MO_isRight_168 (LL_n ha0).2 ha0 o10 ?_)
            refine a_go (by decide) (v_ishr d_MO_isRight_169 ?_)
            refine a_go (by decide) (v_iconst d_MO_isRight_170 ki_1 ?_)
            refine a_go (by decide) (v_iand d_MO_isRight_171 ?_)
            refine a_go (by decide) (v_iconst d_MO_isRight_172 ki_1 ?_)
            refine a_go (by decide) (v_icmp_ne d_MO_isRight_173 (t := 180) (by decide) (fun c13 => ?_) (fun c13 => ?_))
            · skip
              replace hok := mm_okn hok c13
              refine a_go (by decide) (v_iconst d_MO_isRight_180 ki_0 ?_)
              refine a_go (by decide) (v_istore d_MO_isRight_181 (by decide) ?_)
              refine a_go (by decide) (v_iload_n d_MO_isRight_183 rfl ?_)
              refine a_go (by decide) (v_if_eq d_MO_isRight_184 (t := 213) (by decide) (fun c14 => ?_) (fun c14 => ?_))
              · skip
                replace hok := mm_okp hok c14
                refine a_go (by decide) (v_iconst d_MO_isRight_213 ki_0 ?_)
                refine a_go (by decide) (v_zreturn d_MO_isRight_214 rfl (by decide) ?_)
                exact mm_fiV hk (mm_ifp c8 (mm_ifn c9 (mm_ifn c13 (mm_ifp c14 rfl))))
              · skip
                replace hok := mm_okn hok c14
                refine a_go (by decide) (v_lload d_MO_isRight_187 rfl ?_)
                refine a_go (by decide) (v_aload_n d_MO_isRight_189 rfl ?_)
                refine a_go (by decide) (v_aload_n d_MO_isRight_190 rfl ?_)
                refine a_go (by decide) (v_iload_n d_MO_isRight_191 rfl ?_)
                refine a_go (by decide) (v_bipush d_MO_isRight_192 kb_56 ?_)
                refine a_go (by decide) (v_iadd d_MO_isRight_194 ?_)
                refine a_go (by decide) (v_bipush d_MO_isRight_195 kb_8 ?_)
                refine a_go (by decide) (v_callV d_MO_isRight_197 rfl (mm_spl 4 rfl) rfl (Nat.le_of_ble_eq_true rfl) rfl ?_)
                have o11 := And.left hok
                replace hok := And.right hok
                refine (i_m_read ha0 o11 ?_)
                refine a_go (by decide) (v_lcmp d_MO_isRight_200 ?_)
                refine a_go (by decide) (v_if_ne d_MO_isRight_201 (t := 213) (by decide) (fun c15 => ?_) (fun c15 => ?_))
                · skip
                  replace hok := mm_okn hok c15
                  refine a_go (by decide) (v_iconst d_MO_isRight_213 ki_0 ?_)
                  refine a_go (by decide) (v_zreturn d_MO_isRight_214 rfl (by decide) ?_)
                  exact mm_fiV hk (mm_ifp c8 (mm_ifn c9 (mm_ifn c13 (mm_ifn c14 (mm_ifn c15 rfl)))))
                · skip
                  replace hok := mm_okp hok c15
                  refine a_go (by decide) (v_iload d_MO_isRight_204 rfl ?_)
                  refine a_go (by decide) (v_if_ne d_MO_isRight_206 (t := 213) (by decide) (fun c16 => absurd c16 (by decide)) (fun c16 => ?_))
                  refine a_go (by decide) (v_iconst d_MO_isRight_209 ki_1 ?_)
                  refine a_go (by decide) (v_goto d_MO_isRight_210 (t := 214) (by decide) ?_)
                  refine a_go (by decide) (v_zreturn d_MO_isRight_214 rfl (by decide) ?_)
                  exact mm_fiV hk (mm_ifp c8 (mm_ifn c9 (mm_ifn c13 (mm_ifn c14 (mm_ifp c15 rfl)))))
            · skip
              replace hok := mm_okp hok c13
              refine a_go (by decide) (v_iconst d_MO_isRight_176 ki_1 ?_)
              refine a_go (by decide) (v_goto d_MO_isRight_177 (t := 181) (by decide) ?_)
              refine a_go (by decide) (v_istore d_MO_isRight_181 (by decide) ?_)
              refine a_go (by decide) (v_iload_n d_MO_isRight_183 rfl ?_)
              refine a_go (by decide) (v_if_eq d_MO_isRight_184 (t := 213) (by decide) (fun c17 => ?_) (fun c17 => ?_))
              · skip
                replace hok := mm_okp hok c17
                refine a_go (by decide) (v_iconst d_MO_isRight_213 ki_0 ?_)
                refine a_go (by decide) (v_zreturn d_MO_isRight_214 rfl (by decide) ?_)
                exact mm_fiV hk (mm_ifp c8 (mm_ifn c9 (mm_ifp c13 (mm_ifp c17 rfl))))
              · skip
                replace hok := mm_okn hok c17
                refine a_go (by decide) (v_lload d_MO_isRight_187 rfl ?_)
                refine a_go (by decide) (v_aload_n d_MO_isRight_189 rfl ?_)
                refine a_go (by decide) (v_aload_n d_MO_isRight_190 rfl ?_)
                refine a_go (by decide) (v_iload_n d_MO_isRight_191 rfl ?_)
                refine a_go (by decide) (v_bipush d_MO_isRight_192 kb_56 ?_)
                refine a_go (by decide) (v_iadd d_MO_isRight_194 ?_)
                refine a_go (by decide) (v_bipush d_MO_isRight_195 kb_8 ?_)
                refine a_go (by decide) (v_callV d_MO_isRight_197 rfl (mm_spl 4 rfl) rfl (Nat.le_of_ble_eq_true rfl) rfl ?_)
                have o12 := And.left hok
                replace hok := And.right hok
                refine (i_m_read ha0 o12 ?_)
                refine a_go (by decide) (v_lcmp d_MO_isRight_200 ?_)
                refine a_go (by decide) (v_if_ne d_MO_isRight_201 (t := 213) (by decide) (fun c18 => ?_) (fun c18 => ?_))
                · skip
                  replace hok := mm_okn hok c18
                  refine a_go (by decide) (v_iconst d_MO_isRight_213 ki_0 ?_)
                  refine a_go (by decide) (v_zreturn d_MO_isRight_214 rfl (by decide) ?_)
                  exact mm_fiV hk (mm_ifp c8 (mm_ifn c9 (mm_ifp c13 (mm_ifn c17 (mm_ifn c18 rfl)))))
                · skip
                  replace hok := mm_okp hok c18
                  refine a_go (by decide) (v_iload d_MO_isRight_204 rfl ?_)
                  refine a_go (by decide) (v_if_ne d_MO_isRight_206 (t := 213) (by decide) (fun c19 => ?_) (fun c19 => absurd c19 (by decide)))
                  refine a_go (by decide) (v_iconst d_MO_isRight_213 ki_0 ?_)
                  refine a_go (by decide) (v_zreturn d_MO_isRight_214 rfl (by decide) ?_)
                  exact mm_fiV hk (mm_ifp c8 (mm_ifn c9 (mm_ifp c13 (mm_ifn c17 (mm_ifp c18 rfl)))))
        · skip
          replace hok := mm_okn hok c8
          refine a_go (by decide) (v_lload d_MO_isRight_122 rfl ?_)
          refine a_go (by decide) (v_aload_n d_MO_isRight_124 rfl ?_)
          refine a_go (by decide) (v_iload_n d_MO_isRight_125 rfl ?_)
          refine a_go (by decide) (v_iload d_MO_isRight_126 rfl ?_)
          refine a_go (by decide) (v_iadd d_MO_isRight_128 ?_)
          have o13 := And.left hok
          replace hok := And.right hok
          refine a_go (by decide) (v_iaload d_MO_isRight_129 (LL_n ha0).2 ha0 o13 ?_)
          refine a_go (by decide) (v_callS d_MO_isRight_130 rfl (mm_spl 2 rfl) rfl (Nat.le_of_ble_eq_true rfl) ?_)
          refine (i_m_digested ?_)
          refine a_go (by decide) (v_lstore d_MO_isRight_133 (by decide) ?_)
          refine a_go (by decide) (v_iinc d_MO_isRight_135 (by decide) rfl ki_1 ?_)
          refine a_go (by decide) (v_goto d_MO_isRight_138 (t := 115) (by decide) ?_)
          refine a_cut (by decide) ⟨rfl, _, [(0, _), (1, _), (2, _), (3, _), (4, _), (6, _)], ?_, (mm_all_c rfl (mm_all_c rfl (mm_all_c rfl (mm_all_c rfl (mm_all_c rfl (mm_all_c rfl (mm_all_n))))))), (Or.inr (⟨rfl, _, _, _, _, _, _, _, _, rfl, rfl, ha0, hok, (mm_mvV hk (mm_ifn c8 rfl))⟩))⟩
          exact Nat.lt_succ_self _
-- TwoSlotsModel.headOf(I)I
def e_m_headOf (v0 : Int32) (x : mm_S) : Int32 :=
  if v0 = (0 : Int32) then
    (64 : Int32) * (2 : Int32)
  else
    (64 : Int32) * (33 : Int32)
def S_m_headOf : mm_P := fun as x K => ∃ (v0 : Int32), as = [.int v0] ∧ K (some (.int (e_m_headOf v0 x))) x
theorem i_m_headOf {v0 : Int32} {x : mm_S} {K : mm_K} (hk : K (some (.int (e_m_headOf v0 x))) x) : S_m_headOf [.int v0] x K := ⟨_, rfl, hk⟩
def G_m_headOf : mm_G := (FT_MO, CI_MO, CJ_MO, mm_tb [], mm_tb [], none)
def rm_m_headOf : Room := { frames := 0, cells := 0, slots := 0, locals := 0 }
set_option maxHeartbeats 40000000 in
set_option maxRecDepth 10000 in
theorem c_m_headOf (l : Launch) : mm_Con l NW CL TB LL y_MO_headOf b_MO_headOf 1 (some .int) rm_m_headOf S_m_headOf := by
  refine mm_con G_m_headOf [] (fun _ _ _ _ _ _ _ => False) (by decide +kernel) tb_good LL_u nw_nest ?_ rfl ft_MO ci_MO cj_MO ?_ ?_ ?_ ?_
  · rintro as x K ⟨v0, rfl, -⟩
    exact Nat.le_of_ble_eq_true rfl
  · exact mm_tb_e (fun _ h => absurd h List.not_mem_nil)
  · exact mm_tb_e (fun _ h => absurd h List.not_mem_nil)
  · rintro as x K ⟨v0, rfl, hk⟩
    refine ⟨400, ?_⟩
    refine v_bipush d_MO_headOf_0 kb_64 ?_
    refine a_go (by decide) (v_iload_n d_MO_headOf_2 rfl ?_)
    refine a_go (by decide) (v_if_ne d_MO_headOf_3 (t := 10) (by decide) (fun c1 => ?_) (fun c1 => ?_))
    · skip
      refine a_go (by decide) (v_bipush d_MO_headOf_10 kb_33 ?_)
      refine a_go (by decide) (v_imul d_MO_headOf_12 ?_)
      refine a_go (by decide) (v_ireturn d_MO_headOf_13 rfl rfl ?_)
      exact mm_fiV hk (mm_ifn c1 rfl)
    · skip
      refine a_go (by decide) (v_iconst d_MO_headOf_6 ki_2 ?_)
      refine a_go (by decide) (v_goto d_MO_headOf_7 (t := 12) (by decide) ?_)
      refine a_go (by decide) (v_imul d_MO_headOf_12 ?_)
      refine a_go (by decide) (v_ireturn d_MO_headOf_13 rfl rfl ?_)
      exact mm_fiV hk (mm_ifp c1 rfl)
  · intro as x K _ k pc lv x' h
    cases h
-- TwoSlotsModel.counter()J
def e_m_counter (x : mm_S) : Int64 :=
  let y1 := e_m_newest x
  if y1 = (-1 : Int32) then
    (0 : Int64)
  else
    e_m_read 4096 10 (y1 + (8 : Int32)) (4 : Int32) x
def ok_m_counter (x : mm_S) : Prop := (ok_m_newest  x) ∧ (let y1 := e_m_newest x; if y1 = (-1 : Int32) then (True) else ((ok_m_read 4096 10 (y1 + (8 : Int32)) (4 : Int32) x) ∧ (True)))
def S_m_counter : mm_P := fun as x K => as = [.ref 11] ∧ (ok_m_counter x) ∧ K (some (.long (e_m_counter x))) x
theorem i_m_counter {x : mm_S} {K : mm_K} (hpre : (ok_m_counter x)) (hk : K (some (.long (e_m_counter x))) x) : S_m_counter [.ref 11] x K := ⟨rfl, hpre, hk⟩
def G_m_counter : mm_G := (FT_MO, CI_MO, CJ_MO, mm_tb [], mm_tb [(80, 1, 5, S_m_newest), (68, 4, 5, S_m_read)], none)
def rm_m_counter : Room := { frames := 2, cells := 0, slots := 0, locals := 49 }
set_option maxHeartbeats 40000000 in
set_option maxRecDepth 10000 in
theorem c_m_counter (l : Launch) : mm_Con l NW CL TB LL y_MO_counter b_MO_counter 2 (some .long) rm_m_counter S_m_counter := by
  refine mm_con G_m_counter [] (fun _ _ _ _ _ _ _ => False) (by decide +kernel) tb_good LL_u nw_nest ?_ rfl ft_MO ci_MO cj_MO ?_ ?_ ?_ ?_
  · rintro as x K ⟨rfl, -⟩
    exact Nat.le_of_ble_eq_true rfl
  · exact mm_tb_e (fun _ h => absurd h List.not_mem_nil)
  · exact mm_tb_e (List.forall_mem_cons.mpr ⟨mm_cvt_i (c_m_newest l) (mm_cb_i rfl rfl (by decide) (by decide) tc_MO_newest ti_MO ⟨by decide, by decide, by decide +kernel⟩ (Or.inl tl_MO_80)) rfl tv_MO_newest tx_MO_newest, List.forall_mem_cons.mpr ⟨mm_cvt_i (c_m_read l) (mm_cb_i rfl rfl (by decide) (by decide) tc_MO_read ti_MO ⟨by decide, by decide, by decide +kernel⟩ (Or.inl tl_MO_68)) rfl tv_MO_read tx_MO_read, fun _ h => absurd h List.not_mem_nil⟩⟩)
  · rintro as x K ⟨rfl, hok, hk⟩
    refine ⟨400, ?_⟩
    refine v_aload_n d_MO_counter_0 rfl ?_
    refine a_go (by decide) (v_callV d_MO_counter_1 rfl (mm_spl 1 rfl) rfl (Nat.le_of_ble_eq_true rfl) rfl ?_)
    have o1 := And.left hok
    replace hok := And.right hok
    refine (i_m_newest o1 ?_)
    refine a_go (by decide) (v_istore_n d_MO_counter_4 (by decide) ?_)
    refine a_go (by decide) (v_iload_n d_MO_counter_5 rfl ?_)
    refine a_go (by decide) (v_iconst d_MO_counter_6 ki_m1 ?_)
    refine a_go (by decide) (v_icmp_ne d_MO_counter_7 (t := 14) (by decide) (fun c1 => ?_) (fun c1 => ?_))
    · skip
      replace hok := mm_okn hok c1
      refine a_go (by decide) (v_aload_n d_MO_counter_14 rfl ?_)
      refine a_go (by decide) (v_aload_n d_MO_counter_15 rfl ?_)
      refine a_go (by decide) (v_getR d_MO_counter_16 rfl rfl rfl ?_)
      refine a_go (by decide) (v_iload_n d_MO_counter_19 rfl ?_)
      refine a_go (by decide) (v_bipush d_MO_counter_20 kb_8 ?_)
      refine a_go (by decide) (v_iadd d_MO_counter_22 ?_)
      refine a_go (by decide) (v_iconst d_MO_counter_23 ki_4 ?_)
      refine a_go (by decide) (v_callV d_MO_counter_24 rfl (mm_spl 4 rfl) rfl (Nat.le_of_ble_eq_true rfl) rfl ?_)
      have o2 := And.left hok
      replace hok := And.right hok
      refine (i_m_read rfl o2 ?_)
      refine a_go (by decide) (v_lreturn d_MO_counter_27 rfl ?_)
      exact mm_fiVl hk (mm_ifn c1 rfl)
    · skip
      replace hok := mm_okp hok c1
      refine a_go (by decide) (v_lconst d_MO_counter_10 kl_0 ?_)
      refine a_go (by decide) (v_goto d_MO_counter_11 (t := 27) (by decide) ?_)
      refine a_go (by decide) (v_lreturn d_MO_counter_27 rfl ?_)
      exact mm_fiVl hk (mm_ifp c1 rfl)
  · intro as x K _ k pc lv x' h
    cases h
-- TwoSlotsModel.bodyOf(I[II)J
def l_m_bodyOf_30 (k : Nat) (u1 : Int32) (u4 : Int64) (u6 : Int32) (u7 : Int32) (x : mm_S) : Int64 := match k with
  | 0 => 0
  | k + 1 =>
    if u6 ≤ u7 then
      u4
    else
      let y3 := e_m_digested u4 (x.2.2 10 (Int32.toNatClampNeg (((e_m_headOf u1 x) + (64 : Int32)) + u7))) x
      l_m_bodyOf_30 (k) u1 y3 u6 (u7 + (1 : Int32)) x
def okl_m_bodyOf_30 (k : Nat) (u1 : Int32) (u4 : Int64) (u6 : Int32) (u7 : Int32) (x : mm_S) : Prop := match k with
  | 0 => False
  | k + 1 => if u6 ≤ u7 then (True) else ((vp_in (((e_m_headOf u1 x) + (64 : Int32)) + u7) 4096) ∧ (let y3 := e_m_digested u4 (x.2.2 10 (Int32.toNatClampNeg (((e_m_headOf u1 x) + (64 : Int32)) + u7))) x; okl_m_bodyOf_30 (k) u1 y3 u6 (u7 + (1 : Int32)) x))
def e_m_bodyOf (v0 : Int32) (n1 : Nat) (r1 : Nat) (v2 : Int32) (x : mm_S) : Int64 :=
  let y1 := e_m_read n1 r1 (v2 + (4 : Int32)) (4 : Int32) x
  let y2 := (64 : Int32) * (Int64.toInt32 (e_m_read n1 r1 (v2 + (8 : Int32)) (4 : Int32) x))
  l_m_bodyOf_30 (mm_fu (0 : Int32) y2) v0 y1 y2 (0 : Int32) x
def ok_m_bodyOf (v0 : Int32) (n1 : Nat) (r1 : Nat) (v2 : Int32) (x : mm_S) : Prop := (ok_m_read n1 r1 (v2 + (4 : Int32)) (4 : Int32) x) ∧ (let y1 := e_m_read n1 r1 (v2 + (4 : Int32)) (4 : Int32) x; (ok_m_read n1 r1 (v2 + (8 : Int32)) (4 : Int32) x) ∧ (let y2 := (64 : Int32) * (Int64.toInt32 (e_m_read n1 r1 (v2 + (8 : Int32)) (4 : Int32) x)); okl_m_bodyOf_30 (mm_fu (0 : Int32) y2) v0 y1 y2 (0 : Int32) x))
def S_m_bodyOf : mm_P := fun as x K => ∃ (v0 : Int32) (a1 n1 r1 : Nat) (v2 : Int32), as = [.ref 11, .int v0, .ref a1, .int v2] ∧ mm_ar LL a1 = some (1, n1, r1) ∧ (ok_m_bodyOf v0 n1 r1 v2 x) ∧ K (some (.long (e_m_bodyOf v0 n1 r1 v2 x))) x
theorem i_m_bodyOf {v0 : Int32} {a1 n1 r1 : Nat} {v2 : Int32} {x : mm_S} {K : mm_K} (ha1 : mm_ar LL a1 = some (1, n1, r1)) (hpre : (ok_m_bodyOf v0 n1 r1 v2 x)) (hk : K (some (.long (e_m_bodyOf v0 n1 r1 v2 x))) x) : S_m_bodyOf [.ref 11, .int v0, .ref a1, .int v2] x K := ⟨_, _, _, _, _, rfl, ha1, hpre, hk⟩
def G_m_bodyOf : mm_G := (FT_MO, CI_MO, CJ_MO, mm_tb [(84, 1, S_m_headOf), (44, 2, S_m_digested)], mm_tb [(68, 4, 5, S_m_read)], none)
def rm_m_bodyOf : Room := { frames := 1, cells := 0, slots := 0, locals := 26 }
abbrev Inv_m_bodyOf : mm_K → List Value → mm_S → Nat → Nat → mm_V → mm_S → Prop := fun K _ _ k pc lv x => (pc = 30 ∧ ∃ (f : Nat) (u1 : Int32) (u4 : Int64) (u6 : Int32) (u7 : Int32), k = f + 0 ∧ lv = [(0, .ref 11), (1, .int u1), (4, .long u4), (6, .int u6), (7, .int u7)] ∧ okl_m_bodyOf_30 f u1 u4 u6 u7 x ∧ K (some (.long (l_m_bodyOf_30 f u1 u4 u6 u7 x))) x)
set_option maxHeartbeats 40000000 in
set_option maxRecDepth 10000 in
theorem c_m_bodyOf (l : Launch) : mm_Con l NW CL TB LL y_MO_bodyOf b_MO_bodyOf 8 (some .long) rm_m_bodyOf S_m_bodyOf := by
  refine mm_con G_m_bodyOf [30] Inv_m_bodyOf (by decide +kernel) tb_good LL_u nw_nest ?_ rfl ft_MO ci_MO cj_MO ?_ ?_ ?_ ?_
  · rintro as x K ⟨v0, a1, n1, r1, v2, rfl, -⟩
    exact Nat.le_of_ble_eq_true rfl
  · exact mm_tb_e (List.forall_mem_cons.mpr ⟨mm_cst_i (c_m_headOf l) (mm_cb_i rfl rfl (by decide) (by decide) tc_MO_headOf ti_MO ⟨by decide, by decide, by decide +kernel⟩ (Or.inl tl_MO_84)) ts_MO_headOf, List.forall_mem_cons.mpr ⟨mm_cst_i (c_m_digested l) (mm_cb_i rfl rfl (by decide) (by decide) tc_MO_digested ti_MO ⟨by decide, by decide, by decide +kernel⟩ (Or.inl tl_MO_44)) ts_MO_digested, fun _ h => absurd h List.not_mem_nil⟩⟩)
  · exact mm_tb_e (List.forall_mem_cons.mpr ⟨mm_cvt_i (c_m_read l) (mm_cb_i rfl rfl (by decide) (by decide) tc_MO_read ti_MO ⟨by decide, by decide, by decide +kernel⟩ (Or.inl tl_MO_68)) rfl tv_MO_read tx_MO_read, fun _ h => absurd h List.not_mem_nil⟩)
  · rintro as x K ⟨v0, a1, n1, r1, v2, rfl, ha1, hok, hk⟩
    refine ⟨400, ?_⟩
    refine v_aload_n d_MO_bodyOf_0 rfl ?_
    refine a_go (by decide) (v_aload_n d_MO_bodyOf_1 rfl ?_)
    refine a_go (by decide) (v_iload_n d_MO_bodyOf_2 rfl ?_)
    refine a_go (by decide) (v_iconst d_MO_bodyOf_3 ki_4 ?_)
    refine a_go (by decide) (v_iadd d_MO_bodyOf_4 ?_)
    refine a_go (by decide) (v_iconst d_MO_bodyOf_5 ki_4 ?_)
    refine a_go (by decide) (v_callV d_MO_bodyOf_6 rfl (mm_spl 4 rfl) rfl (Nat.le_of_ble_eq_true rfl) rfl ?_)
    have o1 := And.left hok
    replace hok := And.right hok
    refine (i_m_read ha1 o1 ?_)
    refine a_go (by decide) (v_lstore d_MO_bodyOf_9 (by decide) ?_)
    refine a_go (by decide) (v_bipush d_MO_bodyOf_11 kb_64 ?_)
    refine a_go (by decide) (v_aload_n d_MO_bodyOf_13 rfl ?_)
    refine a_go (by decide) (v_aload_n d_MO_bodyOf_14 rfl ?_)
    refine a_go (by decide) (v_iload_n d_MO_bodyOf_15 rfl ?_)
    refine a_go (by decide) (v_bipush d_MO_bodyOf_16 kb_8 ?_)
    refine a_go (by decide) (v_iadd d_MO_bodyOf_18 ?_)
    refine a_go (by decide) (v_iconst d_MO_bodyOf_19 ki_4 ?_)
    refine a_go (by decide) (v_callV d_MO_bodyOf_20 rfl (mm_spl 4 rfl) rfl (Nat.le_of_ble_eq_true rfl) rfl ?_)
    have o2 := And.left hok
    replace hok := And.right hok
    refine (i_m_read ha1 o2 ?_)
    refine a_go (by decide) (v_l2i d_MO_bodyOf_23 ?_)
    refine a_go (by decide) (v_imul d_MO_bodyOf_24 ?_)
    refine a_go (by decide) (v_istore d_MO_bodyOf_25 (by decide) ?_)
    refine a_go (by decide) (v_iconst d_MO_bodyOf_27 ki_0 ?_)
    refine a_go (by decide) (v_istore d_MO_bodyOf_28 (by decide) ?_)
    refine a_cut (by decide) ⟨rfl, _, [(0, _), (1, _), (4, _), (6, _), (7, _)], (mm_all_c rfl (mm_all_c rfl (mm_all_c rfl (mm_all_c rfl (mm_all_c rfl (mm_all_n)))))), ⟨rfl, _, _, _, _, _, rfl, rfl, hok, (mm_mvVl hk rfl)⟩⟩
  · rintro as x0 K - k pc lv x - hinv
    obtain ⟨rfl, f, u1, u4, u6, u7, hkf, rfl, hok, hk⟩ := hinv
    cases f with
    | zero => exact False.elim hok
    | succ k =>
      subst hkf
      refine ⟨900, ?_⟩
      refine v_iload d_MO_bodyOf_30 rfl ?_
      refine a_go (by decide) (v_iload d_MO_bodyOf_32 rfl ?_)
      refine a_go (by decide) (v_icmp_ge d_MO_bodyOf_34 (t := 65) (by decide) (fun c1 => ?_) (fun c1 => ?_))
      · skip
        replace hok := mm_okp hok c1
        refine a_go (by decide) (v_lload d_MO_bodyOf_65 rfl ?_)
        refine a_go (by decide) (v_lreturn d_MO_bodyOf_67 rfl ?_)
        exact mm_fiVl hk (mm_ifp c1 rfl)
      · skip
        replace hok := mm_okn hok c1
        refine a_go (by decide) (v_lload d_MO_bodyOf_37 rfl ?_)
        refine a_go (by decide) (v_aload_n d_MO_bodyOf_39 rfl ?_)
        refine a_go (by decide) (v_getR d_MO_bodyOf_40 rfl rfl rfl ?_)
        refine a_go (by decide) (v_iload_n d_MO_bodyOf_43 rfl ?_)
        refine a_go (by decide) (v_callS d_MO_bodyOf_44 rfl (mm_spl 1 rfl) rfl (Nat.le_of_ble_eq_true rfl) ?_)
        refine (i_m_headOf ?_)
        refine a_go (by decide) (v_bipush d_MO_bodyOf_47 kb_64 ?_)
        refine a_go (by decide) (v_iadd d_MO_bodyOf_49 ?_)
        refine a_go (by decide) (v_iload d_MO_bodyOf_50 rfl ?_)
        refine a_go (by decide) (v_iadd d_MO_bodyOf_52 ?_)
        have o3 := And.left hok
        replace hok := And.right hok
        refine a_go (by decide) (v_iaload d_MO_bodyOf_53 (by decide) rfl o3 ?_)
        refine a_go (by decide) (v_callS d_MO_bodyOf_54 rfl (mm_spl 2 rfl) rfl (Nat.le_of_ble_eq_true rfl) ?_)
        refine (i_m_digested ?_)
        refine a_go (by decide) (v_lstore d_MO_bodyOf_57 (by decide) ?_)
        refine a_go (by decide) (v_iinc d_MO_bodyOf_59 (by decide) rfl ki_1 ?_)
        refine a_go (by decide) (v_goto d_MO_bodyOf_62 (t := 30) (by decide) ?_)
        refine a_cut (by decide) ⟨rfl, _, [(0, _), (1, _), (4, _), (6, _), (7, _)], ?_, (mm_all_c rfl (mm_all_c rfl (mm_all_c rfl (mm_all_c rfl (mm_all_c rfl (mm_all_n)))))), ⟨rfl, _, _, _, _, _, rfl, rfl, hok, (mm_mvVl hk (mm_ifn c1 rfl))⟩⟩
        exact Nat.lt_succ_self _
