theorem mm_nest {k a o : Nat} (h : a < 100) : k * 100 + a + o < (k + 1) * 100 + o := by omega
theorem mm_nest1 {g k o : Nat} : g * 100 + k + o < g * 100 + (k + 1) + o := by omega
theorem mm_nest2 {g k o : Nat} : g * 100 + o < g * 100 + (k + 1) + o := by omega
theorem mm_fall2 {a k o : Nat} (h : a ≤ o) : a < (k + 1) * 100 + o := by omega
theorem mm_cg {α : Type} {P : α → Prop} {a b : α} (h : P a) (e : a = b) : P b := e ▸ h
-- TwoSlotsModel.activeSlot()I
def e_m_activeSlot (x : mm_S) : Int32 :=
  x.2.2 10 (Int32.toNatClampNeg ((e_m_newest x) + (4 : Int32)))
def ok_m_activeSlot (x : mm_S) : Prop := (ok_m_newest  x) ∧ ((vp_in ((e_m_newest x) + (4 : Int32)) 4096) ∧ (True))
def S_m_activeSlot : mm_P := fun as x K => as = [.ref 11] ∧ (ok_m_activeSlot x) ∧ K (some (.int (e_m_activeSlot x))) x
theorem i_m_activeSlot {x : mm_S} {K : mm_K} (hpre : (ok_m_activeSlot x)) (hk : K (some (.int (e_m_activeSlot x))) x) : S_m_activeSlot [.ref 11] x K := ⟨rfl, hpre, hk⟩
def G_m_activeSlot : mm_G := (FT_MO, CI_MO, CJ_MO, mm_tb [], mm_tb [(80, 1, 5, S_m_newest)], none)
def rm_m_activeSlot : Room := { frames := 2, cells := 0, slots := 0, locals := 49 }
set_option maxHeartbeats 40000000 in
set_option maxRecDepth 10000 in
theorem c_m_activeSlot (l : Launch) : mm_Con l NW CL TB LL y_MO_activeSlot b_MO_activeSlot 1 (some .int) rm_m_activeSlot S_m_activeSlot := by
  refine mm_con G_m_activeSlot [] (fun _ _ _ _ _ _ _ => False) (by decide +kernel) tb_good LL_u nw_nest ?_ rfl ft_MO ci_MO cj_MO ?_ ?_ ?_ ?_
  · rintro as x K ⟨rfl, -⟩
    exact Nat.le_of_ble_eq_true rfl
  · exact mm_tb_e (fun _ h => absurd h List.not_mem_nil)
  · exact mm_tb_e (List.forall_mem_cons.mpr ⟨mm_cvt_i (c_m_newest l) (mm_cb_i rfl rfl (by decide) (by decide) tc_MO_newest ti_MO ⟨by decide, by decide, by decide +kernel⟩ (Or.inl tl_MO_80)) rfl tv_MO_newest tx_MO_newest, fun _ h => absurd h List.not_mem_nil⟩)
  · rintro as x K ⟨rfl, hok, hk⟩
    refine ⟨400, ?_⟩
    refine v_aload_n d_MO_activeSlot_0 rfl ?_
    refine a_go (by decide) (v_getR d_MO_activeSlot_1 rfl rfl rfl ?_)
    refine a_go (by decide) (v_aload_n d_MO_activeSlot_4 rfl ?_)
    refine a_go (by decide) (v_callV d_MO_activeSlot_5 rfl (mm_spl 1 rfl) rfl (Nat.le_of_ble_eq_true rfl) rfl ?_)
    have o1 := And.left hok
    replace hok := And.right hok
    refine (i_m_newest o1 ?_)
    refine a_go (by decide) (v_iconst d_MO_activeSlot_8 ki_4 ?_)
    refine a_go (by decide) (v_iadd d_MO_activeSlot_9 ?_)
    have o2 := And.left hok
    replace hok := And.right hok
    refine a_go (by decide) (v_iaload d_MO_activeSlot_10 (by decide) rfl o2 ?_)
    refine a_go (by decide) (v_ireturn d_MO_activeSlot_11 rfl rfl ?_)
    exact mm_fiV hk rfl
  · intro as x K _ k pc lv x' h
    cases h
-- TwoSlotsModel.otherOf(I)I
def e_m_otherOf (v0 : Int32) (x : mm_S) : Int32 :=
  if v0 = (0 : Int32) then
    (1 : Int32)
  else
    (0 : Int32)
def S_m_otherOf : mm_P := fun as x K => ∃ (v0 : Int32), as = [.int v0] ∧ K (some (.int (e_m_otherOf v0 x))) x
theorem i_m_otherOf {v0 : Int32} {x : mm_S} {K : mm_K} (hk : K (some (.int (e_m_otherOf v0 x))) x) : S_m_otherOf [.int v0] x K := ⟨_, rfl, hk⟩
def G_m_otherOf : mm_G := (FT_MO, CI_MO, CJ_MO, mm_tb [], mm_tb [], none)
def rm_m_otherOf : Room := { frames := 0, cells := 0, slots := 0, locals := 0 }
set_option maxHeartbeats 40000000 in
set_option maxRecDepth 10000 in
theorem c_m_otherOf (l : Launch) : mm_Con l NW CL TB LL y_MO_otherOf b_MO_otherOf 1 (some .int) rm_m_otherOf S_m_otherOf := by
  refine mm_con G_m_otherOf [] (fun _ _ _ _ _ _ _ => False) (by decide +kernel) tb_good LL_u nw_nest ?_ rfl ft_MO ci_MO cj_MO ?_ ?_ ?_ ?_
  · rintro as x K ⟨v0, rfl, -⟩
    exact Nat.le_of_ble_eq_true rfl
  · exact mm_tb_e (fun _ h => absurd h List.not_mem_nil)
  · exact mm_tb_e (fun _ h => absurd h List.not_mem_nil)
  · rintro as x K ⟨v0, rfl, hk⟩
    refine ⟨400, ?_⟩
    refine v_iload_n d_MO_otherOf_0 rfl ?_
    refine a_go (by decide) (v_if_ne d_MO_otherOf_1 (t := 8) (by decide) (fun c1 => ?_) (fun c1 => ?_))
    · skip
      refine a_go (by decide) (v_iconst d_MO_otherOf_8 ki_0 ?_)
      refine a_go (by decide) (v_ireturn d_MO_otherOf_9 rfl rfl ?_)
      exact mm_fiV hk (mm_ifn c1 rfl)
    · skip
      refine a_go (by decide) (v_iconst d_MO_otherOf_4 ki_1 ?_)
      refine a_go (by decide) (v_goto d_MO_otherOf_5 (t := 9) (by decide) ?_)
      refine a_go (by decide) (v_ireturn d_MO_otherOf_9 rfl rfl ?_)
      exact mm_fiV hk (mm_ifp c1 rfl)
  · intro as x K _ k pc lv x' h
    cases h
-- TwoSlotsModel.make(IIII)I
def e_m_make (v0 : Int32) (v1 : Int32) (v2 : Int32) (v3 : Int32) (x : mm_S) : Int32 × mm_S :=
  if (e_m_in (Int32.toInt64 v1) (1 : Int64) (30 : Int64) x) = (0 : Int32) then
    ((-102 : Int32), x)
  else
    if (e_m_in (Int32.toInt64 v2) (0 : Int64) (3 : Int64) x) = (0 : Int32) then
      ((-102 : Int32), x)
    else
      let x1 := mm_setI x 108 v0
      let x2 := mm_setI x1 109 v1
      let x3 := mm_setI x2 110 v2
      let x4 := mm_setI x3 111 v3
      ((1 : Int32), x4)
def S_m_make : mm_P := fun as x K => ∃ (v0 : Int32) (v1 : Int32) (v2 : Int32) (v3 : Int32), as = [.ref 11, .int v0, .int v1, .int v2, .int v3] ∧ K (some (.int (e_m_make v0 v1 v2 v3 x).1)) (e_m_make v0 v1 v2 v3 x).2
theorem i_m_make {v0 : Int32} {v1 : Int32} {v2 : Int32} {v3 : Int32} {x : mm_S} {K : mm_K} (hk : K (some (.int (e_m_make v0 v1 v2 v3 x).1)) (e_m_make v0 v1 v2 v3 x).2) : S_m_make [.ref 11, .int v0, .int v1, .int v2, .int v3] x K := ⟨_, _, _, _, rfl, hk⟩
def G_m_make : mm_G := (FT_MO, CI_MO, CJ_MO, mm_tb [(76, 3, S_m_in)], mm_tb [], none)
def rm_m_make : Room := { frames := 1, cells := 0, slots := 0, locals := 25 }
set_option maxHeartbeats 40000000 in
set_option maxRecDepth 10000 in
theorem c_m_make (l : Launch) : mm_Con l NW CL TB LL y_MO_make b_MO_make 5 (some .int) rm_m_make S_m_make := by
  refine mm_con G_m_make [] (fun _ _ _ _ _ _ _ => False) (by decide +kernel) tb_good LL_u nw_nest ?_ rfl ft_MO ci_MO cj_MO ?_ ?_ ?_ ?_
  · rintro as x K ⟨v0, v1, v2, v3, rfl, -⟩
    exact Nat.le_of_ble_eq_true rfl
  · exact mm_tb_e (List.forall_mem_cons.mpr ⟨mm_cst_i (c_m_in l) (mm_cb_i rfl rfl (by decide) (by decide) tc_MO_in ti_MO ⟨by decide, by decide, by decide +kernel⟩ (Or.inl tl_MO_76)) ts_MO_in, fun _ h => absurd h List.not_mem_nil⟩)
  · exact mm_tb_e (fun _ h => absurd h List.not_mem_nil)
  · rintro as x K ⟨v0, v1, v2, v3, rfl, hk⟩
    refine ⟨400, ?_⟩
    refine v_iload_n d_MO_make_0 rfl ?_
    refine a_go (by decide) (v_i2l d_MO_make_1 ?_)
    refine a_go (by decide) (v_lconst d_MO_make_2 kl_1 ?_)
    refine a_go (by decide) (v_ldc2 d_MO_make_3 rfl ?_)
    refine a_go (by decide) (v_callS d_MO_make_6 rfl (mm_spl 3 rfl) rfl (Nat.le_of_ble_eq_true rfl) ?_)
    refine (i_m_in ?_)
    refine a_go (by decide) (v_if_eq d_MO_make_9 (t := 24) (by decide) (fun c1 => ?_) (fun c1 => ?_))
    · skip
      refine a_go (by decide) (v_bipush d_MO_make_24 kb_m102 ?_)
      refine a_go (by decide) (v_ireturn d_MO_make_26 rfl rfl ?_)
      exact mm_fiVS hk (mm_ifp c1 rfl)
    · skip
      refine a_go (by decide) (v_iload_n d_MO_make_12 rfl ?_)
      refine a_go (by decide) (v_i2l d_MO_make_13 ?_)
      refine a_go (by decide) (v_lconst d_MO_make_14 kl_0 ?_)
      refine a_go (by decide) (v_ldc2 d_MO_make_15 rfl ?_)
      refine a_go (by decide) (v_callS d_MO_make_18 rfl (mm_spl 3 rfl) rfl (Nat.le_of_ble_eq_true rfl) ?_)
      refine (i_m_in ?_)
      refine a_go (by decide) (v_if_ne d_MO_make_21 (t := 27) (by decide) (fun c2 => ?_) (fun c2 => ?_))
      · skip
        refine a_go (by decide) (v_aload_n d_MO_make_27 rfl ?_)
        refine a_go (by decide) (v_iload_n d_MO_make_28 rfl ?_)
        refine a_go (by decide) (v_putI d_MO_make_29 rfl rfl rfl ?_)
        refine a_go (by decide) (v_aload_n d_MO_make_32 rfl ?_)
        refine a_go (by decide) (v_iload_n d_MO_make_33 rfl ?_)
        refine a_go (by decide) (v_putI d_MO_make_34 rfl rfl rfl ?_)
        refine a_go (by decide) (v_aload_n d_MO_make_37 rfl ?_)
        refine a_go (by decide) (v_iload_n d_MO_make_38 rfl ?_)
        refine a_go (by decide) (v_putI d_MO_make_39 rfl rfl rfl ?_)
        refine a_go (by decide) (v_aload_n d_MO_make_42 rfl ?_)
        refine a_go (by decide) (v_iload d_MO_make_43 rfl ?_)
        refine a_go (by decide) (v_putI d_MO_make_45 rfl rfl rfl ?_)
        refine a_go (by decide) (v_iconst d_MO_make_48 ki_1 ?_)
        refine a_go (by decide) (v_ireturn d_MO_make_49 rfl rfl ?_)
        exact mm_fiVS hk (mm_ifn c1 (mm_ifn c2 rfl))
      · skip
        refine a_go (by decide) (v_bipush d_MO_make_24 kb_m102 ?_)
        refine a_go (by decide) (v_ireturn d_MO_make_26 rfl rfl ?_)
        exact mm_fiVS hk (mm_ifn c1 (mm_ifp c2 rfl))
  · intro as x K _ k pc lv x' h
    cases h
-- TwoSlotsModel.makerByte(II)I
def e_m_makerByte (v0 : Int32) (v1 : Int32) (x : mm_S) : Int32 :=
  (((x.1 111) + ((5 : Int32) * v0)) + v1) &&& (255 : Int32)
def S_m_makerByte : mm_P := fun as x K => ∃ (v0 : Int32) (v1 : Int32), as = [.ref 11, .int v0, .int v1] ∧ K (some (.int (e_m_makerByte v0 v1 x))) x
theorem i_m_makerByte {v0 : Int32} {v1 : Int32} {x : mm_S} {K : mm_K} (hk : K (some (.int (e_m_makerByte v0 v1 x))) x) : S_m_makerByte [.ref 11, .int v0, .int v1] x K := ⟨_, _, rfl, hk⟩
def G_m_makerByte : mm_G := (FT_MO, CI_MO, CJ_MO, mm_tb [], mm_tb [], none)
def rm_m_makerByte : Room := { frames := 0, cells := 0, slots := 0, locals := 0 }
set_option maxHeartbeats 40000000 in
set_option maxRecDepth 10000 in
theorem c_m_makerByte (l : Launch) : mm_Con l NW CL TB LL y_MO_makerByte b_MO_makerByte 3 (some .int) rm_m_makerByte S_m_makerByte := by
  refine mm_con G_m_makerByte [] (fun _ _ _ _ _ _ _ => False) (by decide +kernel) tb_good LL_u nw_nest ?_ rfl ft_MO ci_MO cj_MO ?_ ?_ ?_ ?_
  · rintro as x K ⟨v0, v1, rfl, -⟩
    exact Nat.le_of_ble_eq_true rfl
  · exact mm_tb_e (fun _ h => absurd h List.not_mem_nil)
  · exact mm_tb_e (fun _ h => absurd h List.not_mem_nil)
  · rintro as x K ⟨v0, v1, rfl, hk⟩
    refine ⟨400, ?_⟩
    refine v_aload_n d_MO_makerByte_0 rfl ?_
    refine a_go (by decide) (v_getI d_MO_makerByte_1 rfl rfl rfl ?_)
    refine a_go (by decide) (v_iconst d_MO_makerByte_4 ki_5 ?_)
    refine a_go (by decide) (v_iload_n d_MO_makerByte_5 rfl ?_)
    refine a_go (by decide) (v_imul d_MO_makerByte_6 ?_)
    refine a_go (by decide) (v_iadd d_MO_makerByte_7 ?_)
    refine a_go (by decide) (v_iload_n d_MO_makerByte_8 rfl ?_)
    refine a_go (by decide) (v_iadd d_MO_makerByte_9 ?_)
    refine a_go (by decide) (v_sipush d_MO_makerByte_10 ks_255 ?_)
    refine a_go (by decide) (v_iand d_MO_makerByte_13 ?_)
    refine a_go (by decide) (v_ireturn d_MO_makerByte_14 rfl rfl ?_)
    exact mm_fiV hk rfl
  · intro as x K _ k pc lv x' h
    cases h
-- TwoSlotsModel.pack(I)I
def t_m_pack_58 (k : Nat) (u1 : Int32) (u2 : Int64) (u4 : Int32) (u5 : Int32) (x : mm_S) : Int64 := match k with
  | 0 => u2
  | k + 1 =>
    if (64 : Int32) ≤ u5 then
      u2
    else
      let y4 := e_m_digested u2 (e_m_makerByte u4 u5 x) x
      t_m_pack_58 (k) u1 y4 u4 (u5 + (1 : Int32)) x
def okt_m_pack_58 (k : Nat) (u1 : Int32) (u2 : Int64) (u4 : Int32) (u5 : Int32) (x : mm_S) : Prop := match k with
  | 0 => False
  | k + 1 => if (64 : Int32) ≤ u5 then (True) else (let y4 := e_m_digested u2 (e_m_makerByte u4 u5 x) x; okt_m_pack_58 (k) u1 y4 u4 (u5 + (1 : Int32)) x)
def l_m_pack_109 (k : Nat) (u1 : Int32) (u2 : Int32) (x : mm_S) : Int32 × mm_S := match k with
  | 0 => (0, x)
  | k + 1 =>
    if (64 : Int32) ≤ u2 then
      let x6 := mm_setI x 105 (64 : Int32)
      ((64 : Int32), x6)
    else
      if u1 = (-1 : Int32) then
        let x8 := mm_setA x 11 (upd (x.2.2 11) (Int32.toNatClampNeg u2) (x.2.2 14 (Int32.toNatClampNeg u2)))
        l_m_pack_109 (k) u1 (u2 + (1 : Int32)) x8
      else
        let x7 := mm_setA x 11 (upd (x.2.2 11) (Int32.toNatClampNeg u2) (e_m_makerByte u1 u2 x))
        l_m_pack_109 (k) u1 (u2 + (1 : Int32)) x7
def okl_m_pack_109 (k : Nat) (u1 : Int32) (u2 : Int32) (x : mm_S) : Prop := match k with
  | 0 => False
  | k + 1 => if (64 : Int32) ≤ u2 then (let x6 := mm_setI x 105 (64 : Int32); True) else (if u1 = (-1 : Int32) then ((vp_in u2 64) ∧ ((vp_in u2 64) ∧ (let x8 := mm_setA x 11 (upd (x.2.2 11) (Int32.toNatClampNeg u2) (x.2.2 14 (Int32.toNatClampNeg u2))); okl_m_pack_109 (k) u1 (u2 + (1 : Int32)) x8))) else ((vp_in u2 64) ∧ (let x7 := mm_setA x 11 (upd (x.2.2 11) (Int32.toNatClampNeg u2) (e_m_makerByte u1 u2 x)); okl_m_pack_109 (k) u1 (u2 + (1 : Int32)) x7)))
def l_m_pack_46 (k : Nat) (u1 : Int32) (u2 : Int64) (u4 : Int32) (x : mm_S) : Int32 × mm_S := match k with
  | 0 => (0, x)
  | k + 1 =>
    if (x.1 109) ≤ u4 then
      let x2 := e_m_header (x.1 108) (x.1 109) (x.1 110) u2 x
      l_m_pack_109 (mm_fu (0 : Int32) 64) u1 (0 : Int32) x2
    else
      let z3 := t_m_pack_58 (mm_fu (0 : Int32) 64) u1 u2 u4 (0 : Int32) x
      l_m_pack_46 (k) u1 z3 (u4 + (1 : Int32)) x
def okl_m_pack_46 (k : Nat) (u1 : Int32) (u2 : Int64) (u4 : Int32) (x : mm_S) : Prop := match k with
  | 0 => False
  | k + 1 => if (x.1 109) ≤ u4 then ((ok_m_header (x.1 108) (x.1 109) (x.1 110) u2 x) ∧ (let x2 := e_m_header (x.1 108) (x.1 109) (x.1 110) u2 x; okl_m_pack_109 (mm_fu (0 : Int32) 64) u1 (0 : Int32) x2)) else ((okt_m_pack_58 (mm_fu (0 : Int32) 64) u1 u2 u4 (0 : Int32) x) ∧ (let z3 := t_m_pack_58 (mm_fu (0 : Int32) 64) u1 u2 u4 (0 : Int32) x; okl_m_pack_46 (k) u1 z3 (u4 + (1 : Int32)) x))
def e_m_pack (v0 : Int32) (x : mm_S) : Int32 × mm_S :=
  if (x.1 109) = (0 : Int32) then
    ((-101 : Int32), x)
  else
    if (e_m_in (Int32.toInt64 v0) (-1 : Int64) (Int32.toInt64 ((x.1 109) - (1 : Int32))) x) = (0 : Int32) then
      ((-101 : Int32), x)
    else
      if v0 = (-1 : Int32) then
        let y1 := (Int32.toInt64 (x.1 108)) &&& (4294967295 : Int64)
        l_m_pack_46 (mm_fu (0 : Int32) (x.1 109)) v0 y1 (0 : Int32) x
      else
        l_m_pack_109 (mm_fu (0 : Int32) 64) v0 (0 : Int32) x
def ok_m_pack (v0 : Int32) (x : mm_S) : Prop := if (x.1 109) = (0 : Int32) then (True) else (if (e_m_in (Int32.toInt64 v0) (-1 : Int64) (Int32.toInt64 ((x.1 109) - (1 : Int32))) x) = (0 : Int32) then (True) else (if v0 = (-1 : Int32) then (let y1 := (Int32.toInt64 (x.1 108)) &&& (4294967295 : Int64); okl_m_pack_46 (mm_fu (0 : Int32) (x.1 109)) v0 y1 (0 : Int32) x) else (okl_m_pack_109 (mm_fu (0 : Int32) 64) v0 (0 : Int32) x)))
def S_m_pack : mm_P := fun as x K => ∃ (v0 : Int32), as = [.ref 11, .int v0] ∧ (ok_m_pack v0 x) ∧ K (some (.int (e_m_pack v0 x).1)) (e_m_pack v0 x).2
theorem i_m_pack {v0 : Int32} {x : mm_S} {K : mm_K} (hpre : (ok_m_pack v0 x)) (hk : K (some (.int (e_m_pack v0 x).1)) (e_m_pack v0 x).2) : S_m_pack [.ref 11, .int v0] x K := ⟨_, rfl, hpre, hk⟩
def G_m_pack : mm_G := (FT_MO, CI_MO, CJ_MO, mm_tb [(76, 3, S_m_in), (44, 2, S_m_digested)], mm_tb [(48, 5, 5, S_m_header), (145, 3, 5, S_m_makerByte)], none)
def rm_m_pack : Room := { frames := 2, cells := 0, slots := 0, locals := 54 }
abbrev Inv_m_pack : mm_K → List Value → mm_S → Nat → Nat → mm_V → mm_S → Prop := fun K _ _ k pc lv x => (pc = 46 ∧ ∃ (f : Nat) (u1 : Int32) (u2 : Int64) (u4 : Int32), k = f * 100 + 200 ∧ lv = [(0, .ref 11), (1, .int u1), (2, .long u2), (4, .int u4)] ∧ okl_m_pack_46 f u1 u2 u4 x ∧ K (some (.int (l_m_pack_46 f u1 u2 u4 x).1)) (l_m_pack_46 f u1 u2 u4 x).2) ∨ (pc = 58 ∧ ∃ (f fo : Nat) (u1 : Int32) (u2 : Int64) (u4 : Int32) (u5 : Int32), k = fo * 100 + f + 200 ∧ lv = [(0, .ref 11), (1, .int u1), (2, .long u2), (4, .int u4), (5, .int u5)] ∧ okt_m_pack_58 f u1 u2 u4 u5 x ∧ (fun z => okl_m_pack_46 fo u1 z (u4 + (1 : Int32)) x) (t_m_pack_58 f u1 u2 u4 u5 x) ∧ K (some (.int ((fun z => l_m_pack_46 fo u1 z (u4 + (1 : Int32)) x) (t_m_pack_58 f u1 u2 u4 u5 x)).1)) ((fun z => l_m_pack_46 fo u1 z (u4 + (1 : Int32)) x) (t_m_pack_58 f u1 u2 u4 u5 x)).2) ∨ (pc = 109 ∧ ∃ (f : Nat) (u1 : Int32) (u2 : Int32), k = f + 0 ∧ lv = [(0, .ref 11), (1, .int u1), (2, .int u2)] ∧ okl_m_pack_109 f u1 u2 x ∧ K (some (.int (l_m_pack_109 f u1 u2 x).1)) (l_m_pack_109 f u1 u2 x).2)
set_option maxHeartbeats 40000000 in
set_option maxRecDepth 10000 in
theorem c_m_pack (l : Launch) : mm_Con l NW CL TB LL y_MO_pack b_MO_pack 6 (some .int) rm_m_pack S_m_pack := by
  refine mm_con G_m_pack [46, 58, 109] Inv_m_pack (by decide +kernel) tb_good LL_u nw_nest ?_ rfl ft_MO ci_MO cj_MO ?_ ?_ ?_ ?_
  · rintro as x K ⟨v0, rfl, -⟩
    exact Nat.le_of_ble_eq_true rfl
  · exact mm_tb_e (List.forall_mem_cons.mpr ⟨mm_cst_i (c_m_in l) (mm_cb_i rfl rfl (by decide) (by decide) tc_MO_in ti_MO ⟨by decide, by decide, by decide +kernel⟩ (Or.inl tl_MO_76)) ts_MO_in, List.forall_mem_cons.mpr ⟨mm_cst_i (c_m_digested l) (mm_cb_i rfl rfl (by decide) (by decide) tc_MO_digested ti_MO ⟨by decide, by decide, by decide +kernel⟩ (Or.inl tl_MO_44)) ts_MO_digested, fun _ h => absurd h List.not_mem_nil⟩⟩)
  · exact mm_tb_e (List.forall_mem_cons.mpr ⟨mm_cvt_i (c_m_header l) (mm_cb_i rfl rfl (by decide) (by decide) tc_MO_header ti_MO ⟨by decide, by decide, by decide +kernel⟩ (Or.inl tl_MO_48)) rfl tv_MO_header tx_MO_header, List.forall_mem_cons.mpr ⟨mm_cvt_i (c_m_makerByte l) (mm_cb_i rfl rfl (by decide) (by decide) tc_MO_makerByte ti_MO ⟨by decide, by decide, by decide +kernel⟩ (Or.inl tl_MO_145)) rfl tv_MO_makerByte tx_MO_makerByte, fun _ h => absurd h List.not_mem_nil⟩⟩)
  · rintro as x K ⟨v0, rfl, hok, hk⟩
    refine ⟨400, ?_⟩
    refine v_aload_n d_MO_pack_0 rfl ?_
    refine a_go (by decide) (v_getI d_MO_pack_1 rfl rfl rfl ?_)
    refine a_go (by decide) (v_if_eq d_MO_pack_4 (t := 25) (by decide) (fun c1 => ?_) (fun c1 => ?_))
    · skip
      replace hok := mm_okp hok c1
      refine a_go (by decide) (v_bipush d_MO_pack_25 kb_m101 ?_)
      refine a_go (by decide) (v_ireturn d_MO_pack_27 rfl rfl ?_)
      exact mm_fiVS hk (mm_ifp c1 rfl)
    · skip
      replace hok := mm_okn hok c1
      refine a_go (by decide) (v_iload_n d_MO_pack_7 rfl ?_)
      refine a_go (by decide) (v_i2l d_MO_pack_8 ?_)
      refine a_go (by decide) (v_ldc2 d_MO_pack_9 rfl ?_)
      refine a_go (by decide) (v_aload_n d_MO_pack_12 rfl ?_)
      refine a_go (by decide) (v_getI d_MO_pack_13 rfl rfl rfl ?_)
      refine a_go (by decide) (v_iconst d_MO_pack_16 ki_1 ?_)
      refine a_go (by decide) (v_isub d_MO_pack_17 ?_)
      refine a_go (by decide) (v_i2l d_MO_pack_18 ?_)
      refine a_go (by decide) (v_callS d_MO_pack_19 rfl (mm_spl 3 rfl) rfl (Nat.le_of_ble_eq_true rfl) ?_)
      refine (i_m_in ?_)
      refine a_go (by decide) (v_if_ne d_MO_pack_22 (t := 28) (by decide) (fun c2 => ?_) (fun c2 => ?_))
      · skip
        replace hok := mm_okn hok c2
        refine a_go (by decide) (v_iload_n d_MO_pack_28 rfl ?_)
        refine a_go (by decide) (v_iconst d_MO_pack_29 ki_m1 ?_)
        refine a_go (by decide) (v_icmp_ne d_MO_pack_30 (t := 107) (by decide) (fun c3 => ?_) (fun c3 => ?_))
        · skip
          replace hok := mm_okn hok c3
          refine a_go (by decide) (v_iconst d_MO_pack_107 ki_0 ?_)
          refine a_go (by decide) (v_istore_n d_MO_pack_108 (by decide) ?_)
          refine a_cut (by decide) ⟨rfl, _, [(0, _), (1, _), (2, _)], (mm_all_c rfl (mm_all_c rfl (mm_all_c rfl (mm_all_n)))), (Or.inr (Or.inr (⟨rfl, _, _, _, rfl, rfl, hok, (mm_mvVS hk (mm_ifn c1 (mm_ifn c2 (mm_ifn c3 rfl))))⟩)))⟩
        · skip
          replace hok := mm_okp hok c3
          refine a_go (by decide) (v_aload_n d_MO_pack_33 rfl ?_)
          refine a_go (by decide) (v_getI d_MO_pack_34 rfl rfl rfl ?_)
          refine a_go (by decide) (v_i2l d_MO_pack_37 ?_)
          refine a_go (by decide) (v_ldc2 d_MO_pack_38 rfl ?_)
          refine a_go (by decide) (v_land d_MO_pack_41 ?_)
          refine a_go (by decide) (v_lstore_n d_MO_pack_42 (by decide) ?_)
          refine a_go (by decide) (v_iconst d_MO_pack_43 ki_0 ?_)
          refine a_go (by decide) (v_istore d_MO_pack_44 (by decide) ?_)
          refine a_cut (by decide) ⟨rfl, _, [(0, _), (1, _), (2, _), (4, _)], (mm_all_c rfl (mm_all_c rfl (mm_all_c rfl (mm_all_c rfl (mm_all_n))))), (Or.inl (⟨rfl, _, _, _, _, rfl, rfl, hok, (mm_mvVS hk (mm_ifn c1 (mm_ifn c2 (mm_ifp c3 rfl))))⟩))⟩
      · skip
        replace hok := mm_okp hok c2
        refine a_go (by decide) (v_bipush d_MO_pack_25 kb_m101 ?_)
        refine a_go (by decide) (v_ireturn d_MO_pack_27 rfl rfl ?_)
        exact mm_fiVS hk (mm_ifn c1 (mm_ifp c2 rfl))
  · rintro as x0 K - k pc lv x - hinv
    rcases hinv with hinv | hinv | hinv
    · skip
      obtain ⟨rfl, f, u1, u2, u4, hkf, rfl, hok, hk⟩ := hinv
      cases f with
      | zero => exact False.elim hok
      | succ k =>
        subst hkf
        refine ⟨900, ?_⟩
        refine v_iload d_MO_pack_46 rfl ?_
        refine a_go (by decide) (v_aload_n d_MO_pack_48 rfl ?_)
        refine a_go (by decide) (v_getI d_MO_pack_49 rfl rfl rfl ?_)
        refine a_go (by decide) (v_icmp_ge d_MO_pack_52 (t := 90) (by decide) (fun c4 => ?_) (fun c4 => ?_))
        · skip
          replace hok := mm_okp hok c4
          refine a_go (by decide) (v_aload_n d_MO_pack_90 rfl ?_)
          refine a_go (by decide) (v_aload_n d_MO_pack_91 rfl ?_)
          refine a_go (by decide) (v_getI d_MO_pack_92 rfl rfl rfl ?_)
          refine a_go (by decide) (v_aload_n d_MO_pack_95 rfl ?_)
          refine a_go (by decide) (v_getI d_MO_pack_96 rfl rfl rfl ?_)
          refine a_go (by decide) (v_aload_n d_MO_pack_99 rfl ?_)
          refine a_go (by decide) (v_getI d_MO_pack_100 rfl rfl rfl ?_)
          refine a_go (by decide) (v_lload_n d_MO_pack_103 rfl ?_)
          refine a_go (by decide) (v_callV d_MO_pack_104 rfl (mm_spl 5 rfl) rfl (Nat.le_of_ble_eq_true rfl) rfl ?_)
          have o1 := And.left hok
          replace hok := And.right hok
          refine (i_m_header o1 ?_)
          refine a_go (by decide) (v_iconst d_MO_pack_107 ki_0 ?_)
          refine a_go (by decide) (v_istore_n d_MO_pack_108 (by decide) ?_)
          refine a_cut (by decide) ⟨rfl, _, [(0, _), (1, _), (2, _)], ?_, (mm_all_c rfl (mm_all_c rfl (mm_all_c rfl (mm_all_n)))), (Or.inr (Or.inr (⟨rfl, _, _, _, rfl, rfl, hok, (mm_mvVS hk (mm_ifp c4 rfl))⟩)))⟩
          exact mm_fall2 (by decide)
        · skip
          replace hok := mm_okn hok c4
          refine a_go (by decide) (v_iconst d_MO_pack_55 ki_0 ?_)
          refine a_go (by decide) (v_istore d_MO_pack_56 (by decide) ?_)
          refine a_cut (by decide) ⟨rfl, _, [(0, _), (1, _), (2, _), (4, _), (5, _)], ?_, (mm_all_c rfl (mm_all_c rfl (mm_all_c rfl (mm_all_c rfl (mm_all_c rfl (mm_all_n)))))), (Or.inr (Or.inl (⟨rfl, _, _, _, _, _, _, rfl, rfl, And.left hok, And.right hok, (mm_mvVS hk (mm_ifn c4 rfl))⟩)))⟩
          exact mm_nest (by decide)
    · skip
      obtain ⟨rfl, f, fo, u1, u2, u4, u5, hkf, rfl, hok, okr, hk⟩ := hinv
      cases f with
      | zero => exact False.elim hok
      | succ k =>
        subst hkf
        refine ⟨900, ?_⟩
        refine v_iload d_MO_pack_58 rfl ?_
        refine a_go (by decide) (v_bipush d_MO_pack_60 kb_64 ?_)
        refine a_go (by decide) (v_icmp_ge d_MO_pack_62 (t := 84) (by decide) (fun c6 => ?_) (fun c6 => ?_))
        · skip
          replace hok := mm_okp hok c6
          refine a_go (by decide) (v_iinc d_MO_pack_84 (by decide) rfl ki_1 ?_)
          refine a_go (by decide) (v_goto d_MO_pack_87 (t := 46) (by decide) ?_)
          refine a_cut (by decide) ⟨rfl, _, [(0, _), (1, _), (2, _), (4, _)], ?_, (mm_all_c rfl (mm_all_c rfl (mm_all_c rfl (mm_all_c rfl (mm_all_n))))), (Or.inl (⟨rfl, _, _, _, _, rfl, rfl, (mm_cg (P := fun z => okl_m_pack_46 fo u1 z (u4 + (1 : Int32)) x) okr (mm_ifp c6 rfl)), (mm_mvVS hk (congrArg (fun z => l_m_pack_46 fo u1 z (u4 + (1 : Int32)) x) (mm_ifp c6 rfl)))⟩))⟩
          exact mm_nest2
        · skip
          replace hok := mm_okn hok c6
          refine a_go (by decide) (v_lload_n d_MO_pack_65 rfl ?_)
          refine a_go (by decide) (v_aload_n d_MO_pack_66 rfl ?_)
          refine a_go (by decide) (v_iload d_MO_pack_67 rfl ?_)
          refine a_go (by decide) (v_iload d_MO_pack_69 rfl ?_)
          refine a_go (by decide) (v_callV d_MO_pack_71 rfl (mm_spl 3 rfl) rfl (Nat.le_of_ble_eq_true rfl) rfl ?_)
          refine (i_m_makerByte ?_)
          refine a_go (by decide) (v_callS d_MO_pack_74 rfl (mm_spl 2 rfl) rfl (Nat.le_of_ble_eq_true rfl) ?_)
          refine (i_m_digested ?_)
          refine a_go (by decide) (v_lstore_n d_MO_pack_77 (by decide) ?_)
          refine a_go (by decide) (v_iinc d_MO_pack_78 (by decide) rfl ki_1 ?_)
          refine a_go (by decide) (v_goto d_MO_pack_81 (t := 58) (by decide) ?_)
          refine a_cut (by decide) ⟨rfl, _, [(0, _), (1, _), (2, _), (4, _), (5, _)], ?_, (mm_all_c rfl (mm_all_c rfl (mm_all_c rfl (mm_all_c rfl (mm_all_c rfl (mm_all_n)))))), (Or.inr (Or.inl (⟨rfl, _, _, _, _, _, _, rfl, rfl, hok, (mm_cg (P := fun z => okl_m_pack_46 fo u1 z (u4 + (1 : Int32)) x) okr (mm_ifn c6 rfl)), (mm_mvVS hk (congrArg (fun z => l_m_pack_46 fo u1 z (u4 + (1 : Int32)) x) (mm_ifn c6 rfl)))⟩)))⟩
          exact mm_nest1
    · skip
      obtain ⟨rfl, f, u1, u2, hkf, rfl, hok, hk⟩ := hinv
      cases f with
      | zero => exact False.elim hok
      | succ k =>
        subst hkf
        refine ⟨900, ?_⟩
        refine v_iload_n d_MO_pack_109 rfl ?_
        refine a_go (by decide) (v_bipush d_MO_pack_110 kb_64 ?_)
        refine a_go (by decide) (v_icmp_ge d_MO_pack_112 (t := 147) (by decide) (fun c7 => ?_) (fun c7 => ?_))
        · skip
          replace hok := mm_okp hok c7
          refine a_go (by decide) (v_aload_n d_MO_pack_147 rfl ?_)
          refine a_go (by decide) (v_bipush d_MO_pack_148 kb_64 ?_)
          refine a_go (by decide) (v_putI d_MO_pack_150 rfl rfl rfl ?_)
          refine a_go (by decide) (v_bipush d_MO_pack_153 kb_64 ?_)
          refine a_go (by decide) (v_ireturn d_MO_pack_155 rfl rfl ?_)
          exact mm_fiVS hk (mm_ifp c7 rfl)
        · skip
          replace hok := mm_okn hok c7
          refine a_go (by decide) (v_aload_n d_MO_pack_115 rfl ?_)
          refine a_go (by decide) (v_getR d_MO_pack_116 rfl rfl rfl ?_)
          refine a_go (by decide) (v_iload_n d_MO_pack_119 rfl ?_)
          refine a_go (by decide) (v_iload_n d_MO_pack_120 rfl ?_)
          refine a_go (by decide) (v_iconst d_MO_pack_121 ki_m1 ?_)
          refine a_go (by decide) (v_icmp_ne d_MO_pack_122 (t := 134) (by decide) (fun c8 => ?_) (fun c8 => ?_))
          · skip
            replace hok := mm_okn hok c8
            refine a_go (by decide) (v_aload_n d_MO_pack_134 rfl ?_)
            refine a_go (by decide) (v_iload_n d_MO_pack_135 rfl ?_)
            refine a_go (by decide) (v_iload_n d_MO_pack_136 rfl ?_)
            refine a_go (by decide) (v_callV d_MO_pack_137 rfl (mm_spl 3 rfl) rfl (Nat.le_of_ble_eq_true rfl) rfl ?_)
            refine (i_m_makerByte ?_)
            have o2 := And.left hok
            replace hok := And.right hok
            refine a_go (by decide) (v_iastore d_MO_pack_140 rfl o2 ?_)
            refine a_go (by decide) (v_iinc d_MO_pack_141 (by decide) rfl ki_1 ?_)
            refine a_go (by decide) (v_goto d_MO_pack_144 (t := 109) (by decide) ?_)
            refine a_cut (by decide) ⟨rfl, _, [(0, _), (1, _), (2, _)], ?_, (mm_all_c rfl (mm_all_c rfl (mm_all_c rfl (mm_all_n)))), (Or.inr (Or.inr (⟨rfl, _, _, _, rfl, rfl, hok, (mm_mvVS hk (mm_ifn c7 (mm_ifn c8 rfl)))⟩)))⟩
            exact Nat.lt_succ_self _
          · skip
            replace hok := mm_okp hok c8
            refine a_go (by decide) (v_aload_n d_MO_pack_125 rfl ?_)
            refine a_go (by decide) (v_getR d_MO_pack_126 rfl rfl rfl ?_)
            refine a_go (by decide) (v_iload_n d_MO_pack_129 rfl ?_)
            have o3 := And.left hok
            replace hok := And.right hok
            refine a_go (by decide) (v_iaload d_MO_pack_130 (by decide) rfl o3 ?_)
            refine a_go (by decide) (v_goto d_MO_pack_131 (t := 140) (by decide) ?_)
            have o4 := And.left hok
            replace hok := And.right hok
            refine a_go (by decide) (v_iastore d_MO_pack_140 rfl o4 ?_)
            refine a_go (by decide) (v_iinc d_MO_pack_141 (by decide) rfl ki_1 ?_)
            refine a_go (by decide) (v_goto d_MO_pack_144 (t := 109) (by decide) ?_)
            refine a_cut (by decide) ⟨rfl, _, [(0, _), (1, _), (2, _)], ?_, (mm_all_c rfl (mm_all_c rfl (mm_all_c rfl (mm_all_n)))), (Or.inr (Or.inr (⟨rfl, _, _, _, rfl, rfl, hok, (mm_mvVS hk (mm_ifn c7 (mm_ifp c8 rfl)))⟩)))⟩
            exact Nat.lt_succ_self _
-- TwoSlotsModel.alter(II)I
def e_m_alter (v0 : Int32) (v1 : Int32) (x : mm_S) : Int32 × mm_S :=
  if (e_m_in (Int32.toInt64 v0) (0 : Int64) (Int32.toInt64 ((x.1 105) - (1 : Int32))) x) = (0 : Int32) then
    ((-101 : Int32), x)
  else
    let x1 := mm_setA x 11 (upd (x.2.2 11) (Int32.toNatClampNeg v0) ((x.2.2 11 (Int32.toNatClampNeg v0)) ^^^ (v1 &&& (255 : Int32))))
    (x1.2.2 11 (Int32.toNatClampNeg v0), x1)
def ok_m_alter (v0 : Int32) (v1 : Int32) (x : mm_S) : Prop := if (e_m_in (Int32.toInt64 v0) (0 : Int64) (Int32.toInt64 ((x.1 105) - (1 : Int32))) x) = (0 : Int32) then (True) else ((vp_in v0 64) ∧ ((vp_in v0 64) ∧ (let x1 := mm_setA x 11 (upd (x.2.2 11) (Int32.toNatClampNeg v0) ((x.2.2 11 (Int32.toNatClampNeg v0)) ^^^ (v1 &&& (255 : Int32)))); (vp_in v0 64) ∧ (True))))
def S_m_alter : mm_P := fun as x K => ∃ (v0 : Int32) (v1 : Int32), as = [.ref 11, .int v0, .int v1] ∧ (ok_m_alter v0 v1 x) ∧ K (some (.int (e_m_alter v0 v1 x).1)) (e_m_alter v0 v1 x).2
theorem i_m_alter {v0 : Int32} {v1 : Int32} {x : mm_S} {K : mm_K} (hpre : (ok_m_alter v0 v1 x)) (hk : K (some (.int (e_m_alter v0 v1 x).1)) (e_m_alter v0 v1 x).2) : S_m_alter [.ref 11, .int v0, .int v1] x K := ⟨_, _, rfl, hpre, hk⟩
def G_m_alter : mm_G := (FT_MO, CI_MO, CJ_MO, mm_tb [(76, 3, S_m_in)], mm_tb [], none)
def rm_m_alter : Room := { frames := 1, cells := 0, slots := 0, locals := 25 }
set_option maxHeartbeats 40000000 in
set_option maxRecDepth 10000 in
theorem c_m_alter (l : Launch) : mm_Con l NW CL TB LL y_MO_alter b_MO_alter 3 (some .int) rm_m_alter S_m_alter := by
  refine mm_con G_m_alter [] (fun _ _ _ _ _ _ _ => False) (by decide +kernel) tb_good LL_u nw_nest ?_ rfl ft_MO ci_MO cj_MO ?_ ?_ ?_ ?_
  · rintro as x K ⟨v0, v1, rfl, -⟩
    exact Nat.le_of_ble_eq_true rfl
  · exact mm_tb_e (List.forall_mem_cons.mpr ⟨mm_cst_i (c_m_in l) (mm_cb_i rfl rfl (by decide) (by decide) tc_MO_in ti_MO ⟨by decide, by decide, by decide +kernel⟩ (Or.inl tl_MO_76)) ts_MO_in, fun _ h => absurd h List.not_mem_nil⟩)
  · exact mm_tb_e (fun _ h => absurd h List.not_mem_nil)
  · rintro as x K ⟨v0, v1, rfl, hok, hk⟩
    refine ⟨400, ?_⟩
    refine v_iload_n d_MO_alter_0 rfl ?_
    refine a_go (by decide) (v_i2l d_MO_alter_1 ?_)
    refine a_go (by decide) (v_lconst d_MO_alter_2 kl_0 ?_)
    refine a_go (by decide) (v_aload_n d_MO_alter_3 rfl ?_)
    refine a_go (by decide) (v_getI d_MO_alter_4 rfl rfl rfl ?_)
    refine a_go (by decide) (v_iconst d_MO_alter_7 ki_1 ?_)
    refine a_go (by decide) (v_isub d_MO_alter_8 ?_)
    refine a_go (by decide) (v_i2l d_MO_alter_9 ?_)
    refine a_go (by decide) (v_callS d_MO_alter_10 rfl (mm_spl 3 rfl) rfl (Nat.le_of_ble_eq_true rfl) ?_)
    refine (i_m_in ?_)
    refine a_go (by decide) (v_if_ne d_MO_alter_13 (t := 19) (by decide) (fun c1 => ?_) (fun c1 => ?_))
    · skip
      replace hok := mm_okn hok c1
      refine a_go (by decide) (v_aload_n d_MO_alter_19 rfl ?_)
      refine a_go (by decide) (v_getR d_MO_alter_20 rfl rfl rfl ?_)
      refine a_go (by decide) (v_iload_n d_MO_alter_23 rfl ?_)
      refine a_go (by decide) (v_dup2 d_MO_alter_24 rfl rfl ?_)
      have o1 := And.left hok
      replace hok := And.right hok
      refine a_go (by decide) (v_iaload d_MO_alter_25 (by decide) rfl o1 ?_)
      refine a_go (by decide) (v_iload_n d_MO_alter_26 rfl ?_)
      refine a_go (by decide) (v_sipush d_MO_alter_27 ks_255 ?_)
      refine a_go (by decide) (v_iand d_MO_alter_30 ?_)
      refine a_go (by decide) (v_ixor d_MO_alter_31 ?_)
      have o2 := And.left hok
      replace hok := And.right hok
      refine a_go (by decide) (v_iastore d_MO_alter_32 rfl o2 ?_)
      refine a_go (by decide) (v_aload_n d_MO_alter_33 rfl ?_)
      refine a_go (by decide) (v_getR d_MO_alter_34 rfl rfl rfl ?_)
      refine a_go (by decide) (v_iload_n d_MO_alter_37 rfl ?_)
      have o3 := And.left hok
      replace hok := And.right hok
      refine a_go (by decide) (v_iaload d_MO_alter_38 (by decide) rfl o3 ?_)
      refine a_go (by decide) (v_ireturn d_MO_alter_39 rfl rfl ?_)
      exact mm_fiVS hk (mm_ifn c1 rfl)
    · skip
      replace hok := mm_okp hok c1
      refine a_go (by decide) (v_bipush d_MO_alter_16 kb_m101 ?_)
      refine a_go (by decide) (v_ireturn d_MO_alter_18 rfl rfl ?_)
      exact mm_fiVS hk (mm_ifp c1 rfl)
  · intro as x K _ k pc lv x' h
    cases h
