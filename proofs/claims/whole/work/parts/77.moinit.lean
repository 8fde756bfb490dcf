/-! TwoSlotsModel(..): its rest by registers. -/
theorem ks_4096 : (Int16.ofInt 4096).toInt32 = (4096 : Int32) := by decide
def t_MOi_135 (k : Nat) (u1 : Int32) (u5 : Int32) (u6 : Int64) (u8 : Int32) (u9 : Int32) (x : mm_S) : Int64 × mm_S := match k with
  | 0 => (u6, x)
  | k + 1 =>
    if (64 : Int32) ≤ u9 then
      (u6, x)
    else
      let y6 := (u8 + ((3 : Int32) * u9)) &&& (255 : Int32)
      let x7 := mm_setA x 10 (upd (x.2.2 10) (Int32.toNatClampNeg (((64 : Int32) * ((3 : Int32) + u8)) + u9)) y6)
      let y8 := e_m_digested u6 y6 x7
      t_MOi_135 (k) u1 u5 y8 u8 (u9 + (1 : Int32)) x7
def okt_MOi_135 (k : Nat) (u1 : Int32) (u5 : Int32) (u6 : Int64) (u8 : Int32) (u9 : Int32) (x : mm_S) : Prop := match k with
  | 0 => False
  | k + 1 => if (64 : Int32) ≤ u9 then (True) else (let y6 := (u8 + ((3 : Int32) * u9)) &&& (255 : Int32); (vp_in (((64 : Int32) * ((3 : Int32) + u8)) + u9) 4096) ∧ (let x7 := mm_setA x 10 (upd (x.2.2 10) (Int32.toNatClampNeg (((64 : Int32) * ((3 : Int32) + u8)) + u9)) y6); let y8 := e_m_digested u6 y6 x7; okt_MOi_135 (k) u1 u5 y8 u8 (u9 + (1 : Int32)) x7))
def l_MOi_253 (k : Nat) (u8 : Int32) (x : mm_S) : mm_S := match k with
  | 0 => x
  | k + 1 =>
    if (16 : Int32) ≤ u8 then
      x
    else
      let x14 := mm_setA x 10 (upd (x.2.2 10) (Int32.toNatClampNeg u8) (x.2.2 15 (Int32.toNatClampNeg u8)))
      l_MOi_253 (k) (u8 + (1 : Int32)) x14
def okl_MOi_253 (k : Nat) (u8 : Int32) (x : mm_S) : Prop := match k with
  | 0 => False
  | k + 1 => if (16 : Int32) ≤ u8 then (True) else ((vp_in u8 16) ∧ ((vp_in u8 4096) ∧ (let x14 := mm_setA x 10 (upd (x.2.2 10) (Int32.toNatClampNeg u8) (x.2.2 15 (Int32.toNatClampNeg u8))); okl_MOi_253 (k) (u8 + (1 : Int32)) x14)))
def l_MOi_206 (k : Nat) (u1 : Int32) (u8 : Int32) (x : mm_S) : mm_S := match k with
  | 0 => x
  | k + 1 =>
    if (64 : Int32) ≤ u8 then
      let x12 := e_m_lineIs (1 : Int64) (0 : Int32) (255 : Int32) (0 : Int32) (0 : Int32) (Int32.toInt64 u1) x
      l_MOi_253 (mm_fu (0 : Int32) 16) (0 : Int32) x12
    else
      let x13 := mm_setA x 10 (upd (x.2.2 10) (Int32.toNatClampNeg ((128 : Int32) + u8)) (x.2.2 14 (Int32.toNatClampNeg u8)))
      l_MOi_206 (k) u1 (u8 + (1 : Int32)) x13
def okl_MOi_206 (k : Nat) (u1 : Int32) (u8 : Int32) (x : mm_S) : Prop := match k with
  | 0 => False
  | k + 1 => if (64 : Int32) ≤ u8 then ((ok_m_lineIs (1 : Int64) (0 : Int32) (255 : Int32) (0 : Int32) (0 : Int32) (Int32.toInt64 u1) x) ∧ (let x12 := e_m_lineIs (1 : Int64) (0 : Int32) (255 : Int32) (0 : Int32) (0 : Int32) (Int32.toInt64 u1) x; okl_MOi_253 (mm_fu (0 : Int32) 16) (0 : Int32) x12)) else ((vp_in u8 64) ∧ ((vp_in ((128 : Int32) + u8) 4096) ∧ (let x13 := mm_setA x 10 (upd (x.2.2 10) (Int32.toNatClampNeg ((128 : Int32) + u8)) (x.2.2 14 (Int32.toNatClampNeg u8))); okl_MOi_206 (k) u1 (u8 + (1 : Int32)) x13)))
def l_MOi_125 (k : Nat) (u1 : Int32) (u5 : Int32) (u6 : Int64) (u8 : Int32) (x : mm_S) : mm_S := match k with
  | 0 => x
  | k + 1 =>
    if u5 ≤ u8 then
      let x4 := e_m_header u1 u5 (0 : Int32) u6 x
      l_MOi_206 (mm_fu (0 : Int32) 64) u1 (0 : Int32) x4
    else
      let z5 := t_MOi_135 (mm_fu (0 : Int32) 64) u1 u5 u6 u8 (0 : Int32) x
      l_MOi_125 (k) u1 u5 z5.1 (u8 + (1 : Int32)) z5.2
def okl_MOi_125 (k : Nat) (u1 : Int32) (u5 : Int32) (u6 : Int64) (u8 : Int32) (x : mm_S) : Prop := match k with
  | 0 => False
  | k + 1 => if u5 ≤ u8 then ((ok_m_header u1 u5 (0 : Int32) u6 x) ∧ (let x4 := e_m_header u1 u5 (0 : Int32) u6 x; okl_MOi_206 (mm_fu (0 : Int32) 64) u1 (0 : Int32) x4)) else ((okt_MOi_135 (mm_fu (0 : Int32) 64) u1 u5 u6 u8 (0 : Int32) x) ∧ (let z5 := t_MOi_135 (mm_fu (0 : Int32) 64) u1 u5 u6 u8 (0 : Int32) x; okl_MOi_125 (k) u1 u5 z5.1 (u8 + (1 : Int32)) z5.2))
def l_MOi_76 (k : Nat) (u1 : Int32) (u2 : Int32) (u5 : Int32) (x : mm_S) : mm_S := match k with
  | 0 => x
  | k + 1 =>
    if (4096 : Int32) ≤ u5 then
      let y1 := (1 : Int32) + (((u2 - u2 / (30 : Int32) * (30 : Int32)) + (30 : Int32)) - ((u2 - u2 / (30 : Int32) * (30 : Int32)) + (30 : Int32)) / (30 : Int32) * (30 : Int32))
      let y2 := (Int32.toInt64 u1) &&& (4294967295 : Int64)
      l_MOi_125 (31) u1 y1 y2 (0 : Int32) x
    else
      let x3 := mm_setA x 10 (upd (x.2.2 10) (Int32.toNatClampNeg u5) (255 : Int32))
      l_MOi_76 (k) u1 u2 (u5 + (1 : Int32)) x3
def okl_MOi_76 (k : Nat) (u1 : Int32) (u2 : Int32) (u5 : Int32) (x : mm_S) : Prop := match k with
  | 0 => False
  | k + 1 => if (4096 : Int32) ≤ u5 then (let y1 := (1 : Int32) + (((u2 - u2 / (30 : Int32) * (30 : Int32)) + (30 : Int32)) - ((u2 - u2 / (30 : Int32) * (30 : Int32)) + (30 : Int32)) / (30 : Int32) * (30 : Int32)); let y2 := (Int32.toInt64 u1) &&& (4294967295 : Int64); okl_MOi_125 (31) u1 y1 y2 (0 : Int32) x) else ((vp_in u5 4096) ∧ (let x3 := mm_setA x 10 (upd (x.2.2 10) (Int32.toNatClampNeg u5) (255 : Int32)); okl_MOi_76 (k) u1 u2 (u5 + (1 : Int32)) x3))
def e_MOi (v0 : Int32) (v1 : Int32) (v2 : Int64) (x : mm_S) : mm_S :=
  l_MOi_76 (mm_fu (0 : Int32) 4096) v0 v1 (0 : Int32) x
def ok_MOi (v0 : Int32) (v1 : Int32) (v2 : Int64) (x : mm_S) : Prop := okl_MOi_76 (mm_fu (0 : Int32) 4096) v0 v1 (0 : Int32) x
def S_MOi : mm_P := fun as x K => ∃ (v0 : Int32) (v1 : Int32) (v2 : Int64), as = [.ref 11, .int v0, .int v1, .long v2] ∧ (ok_MOi v0 v1 v2 x) ∧ K none (e_MOi v0 v1 v2 x)
theorem i_MOi {v0 : Int32} {v1 : Int32} {v2 : Int64} {x : mm_S} {K : mm_K} (hpre : (ok_MOi v0 v1 v2 x)) (hk : K none (e_MOi v0 v1 v2 x)) : S_MOi [.ref 11, .int v0, .int v1, .long v2] x K := ⟨_, _, _, rfl, hpre, hk⟩
def G_MOi : mm_G := (FT_MO, CI_MO, CJ_MO, mm_tb [(44, 2, S_m_digested)], mm_tb [(48, 5, 5, S_m_header), (52, 7, 5, S_m_lineIs)], none)
def rm_MOi : Room := { frames := 2, cells := 0, slots := 0, locals := 54 }
abbrev Inv_MOi : mm_K → List Value → mm_S → Nat → Nat → mm_V → mm_S → Prop := fun K _ _ k pc lv x => (pc = 76 ∧ ∃ (f : Nat) (u1 : Int32) (u2 : Int32) (u5 : Int32), k = f + 5000 ∧ lv = [(0, .ref 11), (1, .int u1), (2, .int u2), (5, .int u5)] ∧ okl_MOi_76 f u1 u2 u5 x ∧ K none (l_MOi_76 f u1 u2 u5 x)) ∨ (pc = 125 ∧ ∃ (f : Nat) (u1 : Int32) (u5 : Int32) (u6 : Int64) (u8 : Int32), k = f * 100 + 400 ∧ lv = [(0, .ref 11), (1, .int u1), (5, .int u5), (6, .long u6), (8, .int u8)] ∧ okl_MOi_125 f u1 u5 u6 u8 x ∧ K none (l_MOi_125 f u1 u5 u6 u8 x)) ∨ (pc = 135 ∧ ∃ (f fo : Nat) (u1 : Int32) (u5 : Int32) (u6 : Int64) (u8 : Int32) (u9 : Int32), k = fo * 100 + f + 400 ∧ lv = [(0, .ref 11), (1, .int u1), (5, .int u5), (6, .long u6), (8, .int u8), (9, .int u9)] ∧ okt_MOi_135 f u1 u5 u6 u8 u9 x ∧ (fun z : Int64 × mm_S => okl_MOi_125 fo u1 u5 z.1 (u8 + (1 : Int32)) z.2) (t_MOi_135 f u1 u5 u6 u8 u9 x) ∧ K none ((fun z : Int64 × mm_S => l_MOi_125 fo u1 u5 z.1 (u8 + (1 : Int32)) z.2) (t_MOi_135 f u1 u5 u6 u8 u9 x))) ∨ (pc = 206 ∧ ∃ (f : Nat) (u1 : Int32) (u8 : Int32), k = f + 100 ∧ lv = [(0, .ref 11), (1, .int u1), (8, .int u8)] ∧ okl_MOi_206 f u1 u8 x ∧ K none (l_MOi_206 f u1 u8 x)) ∨ (pc = 253 ∧ ∃ (f : Nat) (u8 : Int32), k = f + 0 ∧ lv = [(0, .ref 11), (8, .int u8)] ∧ okl_MOi_253 f u8 x ∧ K none (l_MOi_253 f u8 x))
theorem cS_MOi (l : Launch) : ∀ idx q, G_MOi.2.2.2.1 idx = some q → mm_Cst l NW CL TB LL "TwoSlotsModel" 2 54 idx q :=
  mm_tb_e (List.forall_mem_cons.mpr ⟨mm_cst_i (c_m_digested l) (mm_cb_i rfl rfl (by decide) (by decide) tc_MO_digested ti_MO ⟨by decide, by decide, by decide +kernel⟩ (Or.inl tl_MO_44)) ts_MO_digested, fun _ h => absurd h List.not_mem_nil⟩)
theorem cV_MOi (l : Launch) : ∀ idx q, G_MOi.2.2.2.2.1 idx = some q → mm_Cvt l NW CL TB LL "TwoSlotsModel" 2 54 idx q :=
  mm_tb_e (List.forall_mem_cons.mpr ⟨mm_cvt_i (c_m_header l) (mm_cb_i rfl rfl (by decide) (by decide) tc_MO_header ti_MO ⟨by decide, by decide, by decide +kernel⟩ (Or.inl tl_MO_48)) rfl tv_MO_header tx_MO_header, List.forall_mem_cons.mpr ⟨mm_cvt_i (c_m_lineIs l) (mm_cb_i rfl rfl (by decide) (by decide) tc_MO_lineIs ti_MO ⟨by decide, by decide, by decide +kernel⟩ (Or.inl tl_MO_52)) rfl tv_MO_lineIs tx_MO_lineIs, fun _ h => absurd h List.not_mem_nil⟩⟩)
set_option maxHeartbeats 40000000 in
set_option maxRecDepth 10000 in
theorem h0_MOi (as : List Value) (x : mm_S) (K : mm_K) (h : S_MOi as x K) : ∃ n, mm_vc G_MOi LL 11 none b_MO_init [76, 125, 135, 206, 253] (fun pc lv st x' => st = [] ∧ ∃ (k : Nat) (lv' : mm_V), mm_all lv lv' ∧ Inv_MOi K as x k pc lv' x') K n 73 (lv_args 0 as) [] x := by
  obtain ⟨v0, v1, v2, rfl, hok, hk⟩ := h
  refine ⟨400, ?_⟩
  refine v_iconst d_MO_init_73 ki_0 ?_
  refine a_go (by decide) (v_istore d_MO_init_74 (by decide) ?_)
  refine a_cut (by decide) ⟨rfl, _, [(0, _), (1, _), (2, _), (5, _)], (mm_all_c rfl (mm_all_c rfl (mm_all_c rfl (mm_all_c rfl (mm_all_n))))), (Or.inl (⟨rfl, _, _, _, _, rfl, rfl, hok, (mm_mvS hk rfl)⟩))⟩
set_option maxHeartbeats 40000000 in
set_option maxRecDepth 10000 in
theorem h1_MOi (as : List Value) (x0 : mm_S) (K : mm_K) (k pc : Nat) (lv : mm_V) (x : mm_S) (hinv : Inv_MOi K as x0 k pc lv x) : ∃ n, mm_vc G_MOi LL 11 none b_MO_init [76, 125, 135, 206, 253] (fun pc lv st x'' => st = [] ∧ ∃ (k' : Nat) (lv' : mm_V), k' < k ∧ mm_all lv lv' ∧ Inv_MOi K as x0 k' pc lv' x'') K n pc lv [] x := by
  rcases hinv with hinv | hinv | hinv | hinv | hinv
  · skip
    obtain ⟨rfl, f, u1, u2, u5, hkf, rfl, hok, hk⟩ := hinv
    cases f with
    | zero => exact False.elim hok
    | succ k =>
      subst hkf
      refine ⟨900, ?_⟩
      refine v_iload d_MO_init_76 rfl ?_
      refine a_go (by decide) (v_sipush d_MO_init_78 ks_4096 ?_)
      refine a_go (by decide) (v_icmp_ge d_MO_init_81 (t := 100) (by decide) (fun c1 => ?_) (fun c1 => ?_))
      · skip
        replace hok := mm_okp hok c1
        refine a_go (by decide) (v_iconst d_MO_init_100 ki_1 ?_)
        refine a_go (by decide) (v_iload_n d_MO_init_101 rfl ?_)
        refine a_go (by decide) (v_bipush d_MO_init_102 kb_30 ?_)
        refine a_go (by decide) (v_irem d_MO_init_104 (by decide) ?_)
        refine a_go (by decide) (v_bipush d_MO_init_105 kb_30 ?_)
        refine a_go (by decide) (v_iadd d_MO_init_107 ?_)
        refine a_go (by decide) (v_bipush d_MO_init_108 kb_30 ?_)
        refine a_go (by decide) (v_irem d_MO_init_110 (by decide) ?_)
        refine a_go (by decide) (v_iadd d_MO_init_111 ?_)
        refine a_go (by decide) (v_istore d_MO_init_112 (by decide) ?_)
        refine a_go (by decide) (v_iload_n d_MO_init_114 rfl ?_)
        refine a_go (by decide) (v_i2l d_MO_init_115 ?_)
        refine a_go (by decide) (v_ldc2 d_MO_init_116 rfl ?_)
        refine a_go (by decide) (v_land d_MO_init_119 ?_)
        refine a_go (by decide) (v_lstore d_MO_init_120 (by decide) ?_)
        refine a_go (by decide) (v_iconst d_MO_init_122 ki_0 ?_)
        refine a_go (by decide) (v_istore d_MO_init_123 (by decide) ?_)
        refine a_cut (by decide) ⟨rfl, _, [(0, _), (1, _), (5, _), (6, _), (8, _)], ?_, (mm_all_c rfl (mm_all_c rfl (mm_all_c rfl (mm_all_c rfl (mm_all_c rfl (mm_all_n)))))), (Or.inr (Or.inl (⟨rfl, _, _, _, _, _, rfl, rfl, hok, (mm_mvS hk (mm_ifp c1 rfl))⟩)))⟩
        exact mm_fall (by decide)
      · skip
        replace hok := mm_okn hok c1
        refine a_go (by decide) (v_aload_n d_MO_init_84 rfl ?_)
        refine a_go (by decide) (v_getR d_MO_init_85 rfl rfl rfl ?_)
        refine a_go (by decide) (v_iload d_MO_init_88 rfl ?_)
        refine a_go (by decide) (v_sipush d_MO_init_90 ks_255 ?_)
        have o1 := And.left hok
        replace hok := And.right hok
        refine a_go (by decide) (v_iastore d_MO_init_93 rfl o1 ?_)
        refine a_go (by decide) (v_iinc d_MO_init_94 (by decide) rfl ki_1 ?_)
        refine a_go (by decide) (v_goto d_MO_init_97 (t := 76) (by decide) ?_)
        refine a_cut (by decide) ⟨rfl, _, [(0, _), (1, _), (2, _), (5, _)], ?_, (mm_all_c rfl (mm_all_c rfl (mm_all_c rfl (mm_all_c rfl (mm_all_n))))), (Or.inl (⟨rfl, _, _, _, _, rfl, rfl, hok, (mm_mvS hk (mm_ifn c1 rfl))⟩))⟩
        exact mm_off _ _
  · skip
    obtain ⟨rfl, f, u1, u5, u6, u8, hkf, rfl, hok, hk⟩ := hinv
    cases f with
    | zero => exact False.elim hok
    | succ k =>
      subst hkf
      refine ⟨900, ?_⟩
      refine v_iload d_MO_init_125 rfl ?_
      refine a_go (by decide) (v_iload d_MO_init_127 rfl ?_)
      refine a_go (by decide) (v_icmp_ge d_MO_init_129 (t := 193) (by decide) (fun c2 => ?_) (fun c2 => ?_))
      · skip
        replace hok := mm_okp hok c2
        refine a_go (by decide) (v_aload_n d_MO_init_193 rfl ?_)
        refine a_go (by decide) (v_iload_n d_MO_init_194 rfl ?_)
        refine a_go (by decide) (v_iload d_MO_init_195 rfl ?_)
        refine a_go (by decide) (v_iconst d_MO_init_197 ki_0 ?_)
        refine a_go (by decide) (v_lload d_MO_init_198 rfl ?_)
        refine a_go (by decide) (v_callV d_MO_init_200 rfl (mm_spl 5 rfl) rfl (Nat.le_of_ble_eq_true rfl) rfl ?_)
        have o2 := And.left hok
        replace hok := And.right hok
        refine (i_m_header o2 ?_)
        refine a_go (by decide) (v_iconst d_MO_init_203 ki_0 ?_)
        refine a_go (by decide) (v_istore d_MO_init_204 (by decide) ?_)
        refine a_cut (by decide) ⟨rfl, _, [(0, _), (1, _), (8, _)], ?_, (mm_all_c rfl (mm_all_c rfl (mm_all_c rfl (mm_all_n)))), (Or.inr (Or.inr (Or.inr (Or.inl (⟨rfl, _, _, _, rfl, rfl, hok, (mm_mvS hk (mm_ifp c2 rfl))⟩)))))⟩
        exact mm_fall2 (by decide)
      · skip
        replace hok := mm_okn hok c2
        refine a_go (by decide) (v_iconst d_MO_init_132 ki_0 ?_)
        refine a_go (by decide) (v_istore d_MO_init_133 (by decide) ?_)
        refine a_cut (by decide) ⟨rfl, _, [(0, _), (1, _), (5, _), (6, _), (8, _), (9, _)], ?_, (mm_all_c rfl (mm_all_c rfl (mm_all_c rfl (mm_all_c rfl (mm_all_c rfl (mm_all_c rfl (mm_all_n))))))), (Or.inr (Or.inr (Or.inl (⟨rfl, _, _, _, _, _, _, _, rfl, rfl, And.left hok, And.right hok, (mm_mvS hk (mm_ifn c2 rfl))⟩))))⟩
        exact mm_nest (by decide)
  · skip
    obtain ⟨rfl, f, fo, u1, u5, u6, u8, u9, hkf, rfl, hok, okr, hk⟩ := hinv
    cases f with
    | zero => exact False.elim hok
    | succ k =>
      subst hkf
      refine ⟨900, ?_⟩
      refine v_iload d_MO_init_135 rfl ?_
      refine a_go (by decide) (v_bipush d_MO_init_137 kb_64 ?_)
      refine a_go (by decide) (v_icmp_ge d_MO_init_139 (t := 187) (by decide) (fun c4 => ?_) (fun c4 => ?_))
      · skip
        replace hok := mm_okp hok c4
        refine a_go (by decide) (v_iinc d_MO_init_187 (by decide) rfl ki_1 ?_)
        refine a_go (by decide) (v_goto d_MO_init_190 (t := 125) (by decide) ?_)
        refine a_cut (by decide) ⟨rfl, _, [(0, _), (1, _), (5, _), (6, _), (8, _)], ?_, (mm_all_c rfl (mm_all_c rfl (mm_all_c rfl (mm_all_c rfl (mm_all_c rfl (mm_all_n)))))), (Or.inr (Or.inl (⟨rfl, _, _, _, _, _, rfl, rfl, (mm_cg (P := fun z : Int64 × mm_S => okl_MOi_125 fo u1 u5 z.1 (u8 + (1 : Int32)) z.2) okr (mm_ifp c4 rfl)), (mm_mvS hk (congrArg (fun z : Int64 × mm_S => l_MOi_125 fo u1 u5 z.1 (u8 + (1 : Int32)) z.2) (mm_ifp c4 rfl)))⟩)))⟩
        exact mm_nest2
      · skip
        replace hok := mm_okn hok c4
        refine a_go (by decide) (v_iload d_MO_init_142 rfl ?_)
        refine a_go (by decide) (v_iconst d_MO_init_144 ki_3 ?_)
        refine a_go (by decide) (v_iload d_MO_init_145 rfl ?_)
        refine a_go (by decide) (v_imul d_MO_init_147 ?_)
        refine a_go (by decide) (v_iadd d_MO_init_148 ?_)
        refine a_go (by decide) (v_sipush d_MO_init_149 ks_255 ?_)
        refine a_go (by decide) (v_iand d_MO_init_152 ?_)
        refine a_go (by decide) (v_istore d_MO_init_153 (by decide) ?_)
        refine a_go (by decide) (v_aload_n d_MO_init_155 rfl ?_)
        refine a_go (by decide) (v_getR d_MO_init_156 rfl rfl rfl ?_)
        refine a_go (by decide) (v_bipush d_MO_init_159 kb_64 ?_)
        refine a_go (by decide) (v_iconst d_MO_init_161 ki_3 ?_)
        refine a_go (by decide) (v_iload d_MO_init_162 rfl ?_)
        refine a_go (by decide) (v_iadd d_MO_init_164 ?_)
        refine a_go (by decide) (v_imul d_MO_init_165 ?_)
        refine a_go (by decide) (v_iload d_MO_init_166 rfl ?_)
        refine a_go (by decide) (v_iadd d_MO_init_168 ?_)
        refine a_go (by decide) (v_iload d_MO_init_169 rfl ?_)
        have o4 := And.left hok
        replace hok := And.right hok
        refine a_go (by decide) (v_iastore d_MO_init_171 rfl o4 ?_)
        refine a_go (by decide) (v_lload d_MO_init_172 rfl ?_)
        refine a_go (by decide) (v_iload d_MO_init_174 rfl ?_)
        refine a_go (by decide) (v_callS d_MO_init_176 rfl (mm_spl 2 rfl) rfl (Nat.le_of_ble_eq_true rfl) ?_)
        refine (i_m_digested ?_)
        refine a_go (by decide) (v_lstore d_MO_init_179 (by decide) ?_)
        refine a_go (by decide) (v_iinc d_MO_init_181 (by decide) rfl ki_1 ?_)
        refine a_go (by decide) (v_goto d_MO_init_184 (t := 135) (by decide) ?_)
        refine a_cut (by decide) ⟨rfl, _, [(0, _), (1, _), (5, _), (6, _), (8, _), (9, _)], ?_, (mm_all_c rfl (mm_all_c rfl (mm_all_c rfl (mm_all_c rfl (mm_all_c rfl (mm_all_c rfl (mm_all_n))))))), (Or.inr (Or.inr (Or.inl (⟨rfl, _, _, _, _, _, _, _, rfl, rfl, hok, (mm_cg (P := fun z : Int64 × mm_S => okl_MOi_125 fo u1 u5 z.1 (u8 + (1 : Int32)) z.2) okr (mm_ifn c4 rfl)), (mm_mvS hk (congrArg (fun z : Int64 × mm_S => l_MOi_125 fo u1 u5 z.1 (u8 + (1 : Int32)) z.2) (mm_ifn c4 rfl)))⟩))))⟩
        exact mm_nest1
  · skip
    obtain ⟨rfl, f, u1, u8, hkf, rfl, hok, hk⟩ := hinv
    cases f with
    | zero => exact False.elim hok
    | succ k =>
      subst hkf
      refine ⟨900, ?_⟩
      refine v_iload d_MO_init_206 rfl ?_
      refine a_go (by decide) (v_bipush d_MO_init_208 kb_64 ?_)
      refine a_go (by decide) (v_icmp_ge d_MO_init_210 (t := 237) (by decide) (fun c5 => ?_) (fun c5 => ?_))
      · skip
        replace hok := mm_okp hok c5
        refine a_go (by decide) (v_aload_n d_MO_init_237 rfl ?_)
        refine a_go (by decide) (v_lconst d_MO_init_238 kl_1 ?_)
        refine a_go (by decide) (v_iconst d_MO_init_239 ki_0 ?_)
        refine a_go (by decide) (v_sipush d_MO_init_240 ks_255 ?_)
        refine a_go (by decide) (v_iconst d_MO_init_243 ki_0 ?_)
        refine a_go (by decide) (v_iconst d_MO_init_244 ki_0 ?_)
        refine a_go (by decide) (v_iload_n d_MO_init_245 rfl ?_)
        refine a_go (by decide) (v_i2l d_MO_init_246 ?_)
        refine a_go (by decide) (v_callV d_MO_init_247 rfl (mm_spl 7 rfl) rfl (Nat.le_of_ble_eq_true rfl) rfl ?_)
        have o5 := And.left hok
        replace hok := And.right hok
        refine (i_m_lineIs o5 ?_)
        refine a_go (by decide) (v_iconst d_MO_init_250 ki_0 ?_)
        refine a_go (by decide) (v_istore d_MO_init_251 (by decide) ?_)
        refine a_cut (by decide) ⟨rfl, _, [(0, _), (8, _)], ?_, (mm_all_c rfl (mm_all_c rfl (mm_all_n))), (Or.inr (Or.inr (Or.inr (Or.inr (⟨rfl, _, _, rfl, rfl, hok, (mm_mvS hk (mm_ifp c5 rfl))⟩)))))⟩
        exact mm_fall (by decide)
      · skip
        replace hok := mm_okn hok c5
        refine a_go (by decide) (v_aload_n d_MO_init_213 rfl ?_)
        refine a_go (by decide) (v_getR d_MO_init_214 rfl rfl rfl ?_)
        refine a_go (by decide) (v_sipush d_MO_init_217 ks_128 ?_)
        refine a_go (by decide) (v_iload d_MO_init_220 rfl ?_)
        refine a_go (by decide) (v_iadd d_MO_init_222 ?_)
        refine a_go (by decide) (v_aload_n d_MO_init_223 rfl ?_)
        refine a_go (by decide) (v_getR d_MO_init_224 rfl rfl rfl ?_)
        refine a_go (by decide) (v_iload d_MO_init_227 rfl ?_)
        have o6 := And.left hok
        replace hok := And.right hok
        refine a_go (by decide) (v_iaload d_MO_init_229 (by decide) rfl o6 ?_)
        have o7 := And.left hok
        replace hok := And.right hok
        refine a_go (by decide) (v_iastore d_MO_init_230 rfl o7 ?_)
        refine a_go (by decide) (v_iinc d_MO_init_231 (by decide) rfl ki_1 ?_)
        refine a_go (by decide) (v_goto d_MO_init_234 (t := 206) (by decide) ?_)
        refine a_cut (by decide) ⟨rfl, _, [(0, _), (1, _), (8, _)], ?_, (mm_all_c rfl (mm_all_c rfl (mm_all_c rfl (mm_all_n)))), (Or.inr (Or.inr (Or.inr (Or.inl (⟨rfl, _, _, _, rfl, rfl, hok, (mm_mvS hk (mm_ifn c5 rfl))⟩)))))⟩
        exact mm_off _ _
  · skip
    obtain ⟨rfl, f, u8, hkf, rfl, hok, hk⟩ := hinv
    cases f with
    | zero => exact False.elim hok
    | succ k =>
      subst hkf
      refine ⟨900, ?_⟩
      refine v_iload d_MO_init_253 rfl ?_
      refine a_go (by decide) (v_bipush d_MO_init_255 kb_16 ?_)
      refine a_go (by decide) (v_icmp_ge d_MO_init_257 (t := 280) (by decide) (fun c6 => ?_) (fun c6 => ?_))
      · skip
        replace hok := mm_okp hok c6
        refine a_go (by decide) (v_return d_MO_init_280 rfl ?_)
        exact mm_fiS hk (mm_ifp c6 rfl)
      · skip
        replace hok := mm_okn hok c6
        refine a_go (by decide) (v_aload_n d_MO_init_260 rfl ?_)
        refine a_go (by decide) (v_getR d_MO_init_261 rfl rfl rfl ?_)
        refine a_go (by decide) (v_iload d_MO_init_264 rfl ?_)
        refine a_go (by decide) (v_aload_n d_MO_init_266 rfl ?_)
        refine a_go (by decide) (v_getR d_MO_init_267 rfl rfl rfl ?_)
        refine a_go (by decide) (v_iload d_MO_init_270 rfl ?_)
        have o8 := And.left hok
        replace hok := And.right hok
        refine a_go (by decide) (v_iaload d_MO_init_272 (by decide) rfl o8 ?_)
        have o9 := And.left hok
        replace hok := And.right hok
        refine a_go (by decide) (v_iastore d_MO_init_273 rfl o9 ?_)
        refine a_go (by decide) (v_iinc d_MO_init_274 (by decide) rfl ki_1 ?_)
        refine a_go (by decide) (v_goto d_MO_init_277 (t := 253) (by decide) ?_)
        refine a_cut (by decide) ⟨rfl, _, [(0, _), (8, _)], ?_, (mm_all_c rfl (mm_all_c rfl (mm_all_n))), (Or.inr (Or.inr (Or.inr (Or.inr (⟨rfl, _, _, rfl, rfl, hok, (mm_mvS hk (mm_ifn c6 rfl))⟩)))))⟩
        exact Nat.lt_succ_self _
