/-! TwoSlots(..): its rest by registers. -/
theorem tl_TS_78 : Cond.methodLink "TwoSlots" 78 y_JM_floorMod ∈ TB := mem_tb (i := 174) (by decide +kernel) rfl
theorem ts_JM_floorMod : Cond.static y_JM_floorMod ∈ TB := mem_tb (i := 175) (by decide +kernel) rfl
theorem tl_TS_117 : Cond.methodLink "TwoSlots" 117 y_LG_layFirst ∈ TB := mem_tb (i := 229) (by decide +kernel) rfl
theorem tv_LG_layFirst : Cond.instanceMethod y_LG_layFirst ∈ TB := mem_tb (i := 230) (by decide +kernel) rfl
theorem tx_LG_layFirst : Cond.selects "TwoSlots$Log" y_LG_layFirst y_LG_layFirst ∈ TB := mem_tb (i := 231) (by decide +kernel) rfl
def e_fmod (v0 : Int32) (v1 : Int32) (x : mm_S) : Int32 :=
  let y1 := v0 - v0 / v1 * v1
  if (0 : Int32) ≤ (v0 ^^^ v1) then
    y1
  else
    if y1 = (0 : Int32) then
      y1
    else
      y1 + v1
def ok_fmod (v0 : Int32) (v1 : Int32) (x : mm_S) : Prop := (¬ v1 = 0) ∧ (let y1 := v0 - v0 / v1 * v1; if (0 : Int32) ≤ (v0 ^^^ v1) then (True) else (if y1 = (0 : Int32) then (True) else (True)))
def S_fmod : mm_P := fun as x K => ∃ (v0 : Int32) (v1 : Int32), as = [.int v0, .int v1] ∧ (ok_fmod v0 v1 x) ∧ K (some (.int (e_fmod v0 v1 x))) x
theorem i_fmod {v0 : Int32} {v1 : Int32} {x : mm_S} {K : mm_K} (hpre : (ok_fmod v0 v1 x)) (hk : K (some (.int (e_fmod v0 v1 x))) x) : S_fmod [.int v0, .int v1] x K := ⟨_, _, rfl, hpre, hk⟩
def G_fmod : mm_G := (FT_JM, CI_JM, CJ_JM, mm_tb [], mm_tb [], none)
def rm_fmod : Room := { frames := 0, cells := 0, slots := 0, locals := 0 }
set_option maxHeartbeats 40000000 in
set_option maxRecDepth 10000 in
theorem c_fmod (L : mm_L) (hu : mm_Lu L) (hn : mm_Ln L) (l : Launch) : mm_Con l NW CL TB L y_JM_floorMod b_JM_floorMod 3 (some .int) rm_fmod S_fmod := by
  refine mm_con G_fmod [] (fun _ _ _ _ _ _ _ => False) (by decide +kernel) tb_good hu nw_nest ?_ rfl ft_JM ci_JM cj_JM ?_ ?_ ?_ ?_
  · rintro as x K ⟨v0, v1, rfl, -⟩
    exact Nat.le_of_ble_eq_true rfl
  · exact mm_tb_e (fun _ h => absurd h List.not_mem_nil)
  · exact mm_tb_e (fun _ h => absurd h List.not_mem_nil)
  · rintro as x K ⟨v0, v1, rfl, hok, hk⟩
    refine ⟨400, ?_⟩
    refine v_iload_n d_JM_floorMod_0 rfl ?_
    refine a_go (by decide) (v_iload_n d_JM_floorMod_1 rfl ?_)
    have o1 := And.left hok
    replace hok := And.right hok
    refine a_go (by decide) (v_irem d_JM_floorMod_2 o1 ?_)
    refine a_go (by decide) (v_istore_n d_JM_floorMod_3 (by decide) ?_)
    refine a_go (by decide) (v_iload_n d_JM_floorMod_4 rfl ?_)
    refine a_go (by decide) (v_iload_n d_JM_floorMod_5 rfl ?_)
    refine a_go (by decide) (v_ixor d_JM_floorMod_6 ?_)
    refine a_go (by decide) (v_if_ge d_JM_floorMod_7 (t := 18) (by decide) (fun c1 => ?_) (fun c1 => ?_))
    · skip
      replace hok := mm_okp hok c1
      refine a_go (by decide) (v_iload_n d_JM_floorMod_18 rfl ?_)
      refine a_go (by decide) (v_ireturn d_JM_floorMod_19 rfl rfl ?_)
      exact mm_fiV hk (mm_ifp c1 rfl)
    · skip
      replace hok := mm_okn hok c1
      refine a_go (by decide) (v_iload_n d_JM_floorMod_10 rfl ?_)
      refine a_go (by decide) (v_if_eq d_JM_floorMod_11 (t := 18) (by decide) (fun c2 => ?_) (fun c2 => ?_))
      · skip
        replace hok := mm_okp hok c2
        refine a_go (by decide) (v_iload_n d_JM_floorMod_18 rfl ?_)
        refine a_go (by decide) (v_ireturn d_JM_floorMod_19 rfl rfl ?_)
        exact mm_fiV hk (mm_ifn c1 (mm_ifp c2 rfl))
      · skip
        replace hok := mm_okn hok c2
        refine a_go (by decide) (v_iload_n d_JM_floorMod_14 rfl ?_)
        refine a_go (by decide) (v_iload_n d_JM_floorMod_15 rfl ?_)
        refine a_go (by decide) (v_iadd d_JM_floorMod_16 ?_)
        refine a_go (by decide) (v_ireturn d_JM_floorMod_17 rfl rfl ?_)
        exact mm_fiV hk (mm_ifn c1 (mm_ifn c2 rfl))
  · intro as x K _ k pc lv x' h
    cases h
def t_TSi_150 (k : Nat) (u1 : Int32) (u5 : Int32) (u6 : Int32) (u7 : Int32) (u8 : Int32) (x : mm_S) : mm_S := match k with
  | 0 => x
  | k + 1 =>
    if (64 : Int32) ≤ u8 then
      x
    else
      let x8 := e_putByte 4096 1 ((u6 + (u7 * (64 : Int32))) + u8) (u7 + ((3 : Int32) * u8)) x
      t_TSi_150 (k) u1 u5 u6 u7 (u8 + (1 : Int32)) x8
def okt_TSi_150 (k : Nat) (u1 : Int32) (u5 : Int32) (u6 : Int32) (u7 : Int32) (u8 : Int32) (x : mm_S) : Prop := match k with
  | 0 => False
  | k + 1 => if (64 : Int32) ≤ u8 then (True) else (let x8 := e_putByte 4096 1 ((u6 + (u7 * (64 : Int32))) + u8) (u7 + ((3 : Int32) * u8)) x; okt_TSi_150 (k) u1 u5 u6 u7 (u8 + (1 : Int32)) x8)
def l_TSi_140 (k : Nat) (u1 : Int32) (u5 : Int32) (u6 : Int32) (u7 : Int32) (x : mm_S) : mm_S := match k with
  | 0 => x
  | k + 1 =>
    if u5 ≤ u7 then
      let y3 := e_bdigest (0 : Int32) u1 u5 x
      let x4 := e_hs_compose u1 u5 (0 : Int32) y3 (e_keyNumber (0 : Int32) x) x
      let x5 := e_copySector 64 3 (0 : Int32) 4096 1 ((e_hsec (0 : Int32) x4) * (64 : Int32)) x4
      let x6 := e_layFirst u1 x5
      x6
    else
      let z7 := t_TSi_150 (mm_fu (0 : Int32) 64) u1 u5 u6 u7 (0 : Int32) x
      l_TSi_140 (k) u1 u5 u6 (u7 + (1 : Int32)) z7
def okl_TSi_140 (k : Nat) (u1 : Int32) (u5 : Int32) (u6 : Int32) (u7 : Int32) (x : mm_S) : Prop := match k with
  | 0 => False
  | k + 1 => if u5 ≤ u7 then (let y3 := e_bdigest (0 : Int32) u1 u5 x; let x4 := e_hs_compose u1 u5 (0 : Int32) y3 (e_keyNumber (0 : Int32) x) x; let x5 := e_copySector 64 3 (0 : Int32) 4096 1 ((e_hsec (0 : Int32) x4) * (64 : Int32)) x4; let x6 := e_layFirst u1 x5; True) else ((okt_TSi_150 (mm_fu (0 : Int32) 64) u1 u5 u6 u7 (0 : Int32) x) ∧ (let z7 := t_TSi_150 (mm_fu (0 : Int32) 64) u1 u5 u6 u7 (0 : Int32) x; okl_TSi_140 (k) u1 u5 u6 (u7 + (1 : Int32)) z7))
def e_TSi (v0 : Int32) (v1 : Int32) (v2 : Int64) (x : mm_S) : mm_S :=
  let y1 := (1 : Int32) + (e_fmod v1 (30 : Int32) x)
  let y2 := e_bstart (0 : Int32) x
  l_TSi_140 (31) v0 y1 y2 (0 : Int32) x
def ok_TSi (v0 : Int32) (v1 : Int32) (v2 : Int64) (x : mm_S) : Prop := (ok_fmod v1 (30 : Int32) x) ∧ (let y1 := (1 : Int32) + (e_fmod v1 (30 : Int32) x); let y2 := e_bstart (0 : Int32) x; okl_TSi_140 (31) v0 y1 y2 (0 : Int32) x)
def S_TSi : mm_P := fun as x K => ∃ (v0 : Int32) (v1 : Int32) (v2 : Int64), as = [.ref 0, .int v0, .int v1, .long v2] ∧ (ok_TSi v0 v1 v2 x) ∧ K none (e_TSi v0 v1 v2 x)
theorem i_TSi {v0 : Int32} {v1 : Int32} {v2 : Int64} {x : mm_S} {K : mm_K} (hpre : (ok_TSi v0 v1 v2 x)) (hk : K none (e_TSi v0 v1 v2 x)) : S_TSi [.ref 0, .int v0, .int v1, .long v2] x K := ⟨_, _, _, rfl, hpre, hk⟩
def G_TSi : mm_G := (FT_TS, CI_TS, CJ_TS, mm_tb [(78, 2, S_fmod), (84, 1, S_bstart), (110, 1, S_hsec), (113, 4, S_copySector), (91, 3, S_putByte)], mm_tb [(95, 4, 0, S_bdigest), (99, 2, 0, S_keyNumber), (103, 6, 4, S_hs_compose), (117, 2, 2, S_layFirst)], none)
def rm_TSi : Room := { frames := 4, cells := 0, slots := 0, locals := 94 }
abbrev Inv_TSi : mm_K → List Value → mm_S → Nat → Nat → mm_V → mm_S → Prop := fun K _ _ k pc lv x => (pc = 140 ∧ ∃ (f : Nat) (u1 : Int32) (u5 : Int32) (u6 : Int32) (u7 : Int32), k = f * 100 + 400 ∧ lv = [(0, .ref 0), (1, .int u1), (5, .int u5), (6, .int u6), (7, .int u7)] ∧ okl_TSi_140 f u1 u5 u6 u7 x ∧ K none (l_TSi_140 f u1 u5 u6 u7 x)) ∨ (pc = 150 ∧ ∃ (f fo : Nat) (u1 : Int32) (u5 : Int32) (u6 : Int32) (u7 : Int32) (u8 : Int32), k = fo * 100 + f + 400 ∧ lv = [(0, .ref 0), (1, .int u1), (5, .int u5), (6, .int u6), (7, .int u7), (8, .int u8)] ∧ okt_TSi_150 f u1 u5 u6 u7 u8 x ∧ (fun z => okl_TSi_140 fo u1 u5 u6 (u7 + (1 : Int32)) z) (t_TSi_150 f u1 u5 u6 u7 u8 x) ∧ K none ((fun z => l_TSi_140 fo u1 u5 u6 (u7 + (1 : Int32)) z) (t_TSi_150 f u1 u5 u6 u7 u8 x)))
theorem cS_TSi (l : Launch) : ∀ idx q, G_TSi.2.2.2.1 idx = some q → mm_Cst l NW CL TB LC "TwoSlots" 5 220 idx q :=
  mm_tb_e (List.forall_mem_cons.mpr ⟨mm_cst_i (c_fmod LC LC_u LC_n l) (mm_cb_i rfl rfl (by decide) (by decide) tc_JM_floorMod ti_JM ⟨by decide, by decide, by decide +kernel⟩ (Or.inl tl_TS_78)) ts_JM_floorMod, List.forall_mem_cons.mpr ⟨mm_cst_i (c_bstart l) (mm_cb_i rfl rfl (by decide) (by decide) tc_TS_bodyStart ti_TS ⟨by decide, by decide, by decide +kernel⟩ (Or.inl tl_TS_84)) ts_TS_bodyStart, List.forall_mem_cons.mpr ⟨mm_cst_i (c_hsec l) (mm_cb_i rfl rfl (by decide) (by decide) tc_TS_headerSector ti_TS ⟨by decide, by decide, by decide +kernel⟩ (Or.inl tl_TS_110)) ts_TS_headerSector, List.forall_mem_cons.mpr ⟨mm_cst_i (c_copySector l) (mm_cb_i rfl rfl (by decide) (by decide) tc_TS_copySector ti_TS ⟨by decide, by decide, by decide +kernel⟩ (Or.inl tl_TS_113)) ts_TS_copySector, List.forall_mem_cons.mpr ⟨mm_cst_i (c_putByte l) (mm_cb_i rfl rfl (by decide) (by decide) tc_TS_putByte ti_TS ⟨by decide, by decide, by decide +kernel⟩ (Or.inl tl_TS_91)) ts_TS_putByte, fun _ h => absurd h List.not_mem_nil⟩⟩⟩⟩⟩)
theorem cV_TSi (l : Launch) : ∀ idx q, G_TSi.2.2.2.2.1 idx = some q → mm_Cvt l NW CL TB LC "TwoSlots" 5 220 idx q :=
  mm_tb_e (List.forall_mem_cons.mpr ⟨mm_cvt_i (c_bdigest l) (mm_cb_i rfl rfl (by decide) (by decide) tc_TS_bodyDigest ti_TS ⟨by decide, by decide, by decide +kernel⟩ (Or.inl tl_TS_95)) rfl tv_TS_bodyDigest tx_TS_bodyDigest, List.forall_mem_cons.mpr ⟨mm_cvt_i (c_keyNumber l) (mm_cb_i rfl rfl (by decide) (by decide) tc_TS_keyNumber ti_TS ⟨by decide, by decide, by decide +kernel⟩ (Or.inl tl_TS_99)) rfl tv_TS_keyNumber tx_TS_keyNumber, List.forall_mem_cons.mpr ⟨mm_cvt_i (c_hs_compose l) (mm_cb_i rfl rfl (by decide) (by decide) tc_HD_compose ti_HD ⟨by decide, by decide, by decide +kernel⟩ (Or.inl tl_TS_103)) rfl tv_HD_compose tx_HD_compose, List.forall_mem_cons.mpr ⟨mm_cvt_i (c_layFirst l) (mm_cb_i rfl rfl (by decide) (by decide) tc_LG_layFirst ti_LG ⟨by decide, by decide, by decide +kernel⟩ (Or.inl tl_TS_117)) rfl tv_LG_layFirst tx_LG_layFirst, fun _ h => absurd h List.not_mem_nil⟩⟩⟩⟩)
set_option maxHeartbeats 40000000 in
set_option maxRecDepth 10000 in
theorem h0_TSi (as : List Value) (x : mm_S) (K : mm_K) (h : S_TSi as x K) : ∃ n, mm_vc G_TSi LC 9 none b_TS_init [140, 150] (fun pc lv st x' => st = [] ∧ ∃ (k : Nat) (lv' : mm_V), mm_all lv lv' ∧ Inv_TSi K as x k pc lv' x') K n 121 (lv_args 0 as) [] x := by
  obtain ⟨v0, v1, v2, rfl, hok, hk⟩ := h
  refine ⟨400, ?_⟩
  refine v_iconst d_TS_init_121 ki_1 ?_
  refine a_go (by decide) (v_iload_n d_TS_init_122 rfl ?_)
  refine a_go (by decide) (v_bipush d_TS_init_123 kb_30 ?_)
  refine a_go (by decide) (v_callS d_TS_init_125 rfl (mm_spl 2 rfl) rfl (Nat.le_of_ble_eq_true rfl) ?_)
  have o1 := And.left hok
  replace hok := And.right hok
  refine (i_fmod o1 ?_)
  refine a_go (by decide) (v_iadd d_TS_init_128 ?_)
  refine a_go (by decide) (v_istore d_TS_init_129 (by decide) ?_)
  refine a_go (by decide) (v_iconst d_TS_init_131 ki_0 ?_)
  refine a_go (by decide) (v_callS d_TS_init_132 rfl (mm_spl 1 rfl) rfl (Nat.le_of_ble_eq_true rfl) ?_)
  refine (i_bstart ?_)
  refine a_go (by decide) (v_istore d_TS_init_135 (by decide) ?_)
  refine a_go (by decide) (v_iconst d_TS_init_137 ki_0 ?_)
  refine a_go (by decide) (v_istore d_TS_init_138 (by decide) ?_)
  refine a_cut (by decide) ⟨rfl, _, [(0, _), (1, _), (5, _), (6, _), (7, _)], (mm_all_c rfl (mm_all_c rfl (mm_all_c rfl (mm_all_c rfl (mm_all_c rfl (mm_all_n)))))), (Or.inl (⟨rfl, _, _, _, _, _, rfl, rfl, hok, (mm_mvS hk rfl)⟩))⟩
set_option maxHeartbeats 40000000 in
set_option maxRecDepth 10000 in
theorem h1_TSi (as : List Value) (x0 : mm_S) (K : mm_K) (k pc : Nat) (lv : mm_V) (x : mm_S) (hinv : Inv_TSi K as x0 k pc lv x) : ∃ n, mm_vc G_TSi LC 9 none b_TS_init [140, 150] (fun pc lv st x'' => st = [] ∧ ∃ (k' : Nat) (lv' : mm_V), k' < k ∧ mm_all lv lv' ∧ Inv_TSi K as x0 k' pc lv' x'') K n pc lv [] x := by
  rcases hinv with hinv | hinv
  · skip
    obtain ⟨rfl, f, u1, u5, u6, u7, hkf, rfl, hok, hk⟩ := hinv
    cases f with
    | zero => exact False.elim hok
    | succ k =>
      subst hkf
      refine ⟨900, ?_⟩
      refine v_iload d_TS_init_140 rfl ?_
      refine a_go (by decide) (v_iload d_TS_init_142 rfl ?_)
      refine a_go (by decide) (v_icmp_ge d_TS_init_144 (t := 197) (by decide) (fun c1 => ?_) (fun c1 => ?_))
      · skip
        replace hok := mm_okp hok c1
        refine a_go (by decide) (v_aload_n d_TS_init_197 rfl ?_)
        refine a_go (by decide) (v_iconst d_TS_init_198 ki_0 ?_)
        refine a_go (by decide) (v_iload_n d_TS_init_199 rfl ?_)
        refine a_go (by decide) (v_iload d_TS_init_200 rfl ?_)
        refine a_go (by decide) (v_callV d_TS_init_202 rfl (mm_spl 4 rfl) rfl (Nat.le_of_ble_eq_true rfl) rfl ?_)
        refine (i_bdigest ?_)
        refine a_go (by decide) (v_lstore d_TS_init_205 (by decide) ?_)
        refine a_go (by decide) (v_aload_n d_TS_init_207 rfl ?_)
        refine a_go (by decide) (v_getR d_TS_init_208 rfl rfl rfl ?_)
        refine a_go (by decide) (v_iload_n d_TS_init_211 rfl ?_)
        refine a_go (by decide) (v_iload d_TS_init_212 rfl ?_)
        refine a_go (by decide) (v_iconst d_TS_init_214 ki_0 ?_)
        refine a_go (by decide) (v_lload d_TS_init_215 rfl ?_)
        refine a_go (by decide) (v_aload_n d_TS_init_217 rfl ?_)
        refine a_go (by decide) (v_iconst d_TS_init_218 ki_0 ?_)
        refine a_go (by decide) (v_callV d_TS_init_219 rfl (mm_spl 2 rfl) rfl (Nat.le_of_ble_eq_true rfl) rfl ?_)
        refine (i_keyNumber ?_)
        refine a_go (by decide) (v_callV d_TS_init_222 rfl (mm_spl 6 rfl) rfl (Nat.le_of_ble_eq_true rfl) rfl ?_)
        refine (i_hs_compose ?_)
        refine a_go (by decide) (v_aload_n d_TS_init_225 rfl ?_)
        refine a_go (by decide) (v_getR d_TS_init_226 rfl rfl rfl ?_)
        refine a_go (by decide) (v_getR d_TS_init_229 rfl rfl rfl ?_)
        refine a_go (by decide) (v_iconst d_TS_init_232 ki_0 ?_)
        refine a_go (by decide) (v_aload_n d_TS_init_233 rfl ?_)
        refine a_go (by decide) (v_getR d_TS_init_234 rfl rfl rfl ?_)
        refine a_go (by decide) (v_getR d_TS_init_237 rfl rfl rfl ?_)
        refine a_go (by decide) (v_iconst d_TS_init_240 ki_0 ?_)
        refine a_go (by decide) (v_callS d_TS_init_241 rfl (mm_spl 1 rfl) rfl (Nat.le_of_ble_eq_true rfl) ?_)
        refine (i_hsec ?_)
        refine a_go (by decide) (v_bipush d_TS_init_244 kb_64 ?_)
        refine a_go (by decide) (v_imul d_TS_init_246 ?_)
        refine a_go (by decide) (v_callS d_TS_init_247 rfl (mm_spl 4 rfl) rfl (Nat.le_of_ble_eq_true rfl) ?_)
        refine (i_copySector rfl rfl ?_)
        refine a_go (by decide) (v_aload_n d_TS_init_250 rfl ?_)
        refine a_go (by decide) (v_getR d_TS_init_251 rfl rfl rfl ?_)
        refine a_go (by decide) (v_iload_n d_TS_init_254 rfl ?_)
        refine a_go (by decide) (v_callV d_TS_init_255 rfl (mm_spl 2 rfl) rfl (Nat.le_of_ble_eq_true rfl) rfl ?_)
        refine (i_layFirst ?_)
        refine a_go (by decide) (v_return d_TS_init_258 rfl ?_)
        exact mm_fiS hk (mm_ifp c1 rfl)
      · skip
        replace hok := mm_okn hok c1
        refine a_go (by decide) (v_iconst d_TS_init_147 ki_0 ?_)
        refine a_go (by decide) (v_istore d_TS_init_148 (by decide) ?_)
        refine a_cut (by decide) ⟨rfl, _, [(0, _), (1, _), (5, _), (6, _), (7, _), (8, _)], ?_, (mm_all_c rfl (mm_all_c rfl (mm_all_c rfl (mm_all_c rfl (mm_all_c rfl (mm_all_c rfl (mm_all_n))))))), (Or.inr (⟨rfl, _, _, _, _, _, _, _, rfl, rfl, And.left hok, And.right hok, (mm_mvS hk (mm_ifn c1 rfl))⟩))⟩
        exact mm_nest (by decide)
  · skip
    obtain ⟨rfl, f, fo, u1, u5, u6, u7, u8, hkf, rfl, hok, okr, hk⟩ := hinv
    cases f with
    | zero => exact False.elim hok
    | succ k =>
      subst hkf
      refine ⟨900, ?_⟩
      refine v_iload d_TS_init_150 rfl ?_
      refine a_go (by decide) (v_bipush d_TS_init_152 kb_64 ?_)
      refine a_go (by decide) (v_icmp_ge d_TS_init_154 (t := 191) (by decide) (fun c3 => ?_) (fun c3 => ?_))
      · skip
        replace hok := mm_okp hok c3
        refine a_go (by decide) (v_iinc d_TS_init_191 (by decide) rfl ki_1 ?_)
        refine a_go (by decide) (v_goto d_TS_init_194 (t := 140) (by decide) ?_)
        refine a_cut (by decide) ⟨rfl, _, [(0, _), (1, _), (5, _), (6, _), (7, _)], ?_, (mm_all_c rfl (mm_all_c rfl (mm_all_c rfl (mm_all_c rfl (mm_all_c rfl (mm_all_n)))))), (Or.inl (⟨rfl, _, _, _, _, _, rfl, rfl, (mm_cg (P := fun z => okl_TSi_140 fo u1 u5 u6 (u7 + (1 : Int32)) z) okr (mm_ifp c3 rfl)), (mm_mvS hk (congrArg (fun z => l_TSi_140 fo u1 u5 u6 (u7 + (1 : Int32)) z) (mm_ifp c3 rfl)))⟩))⟩
        exact mm_nest2
      · skip
        replace hok := mm_okn hok c3
        refine a_go (by decide) (v_aload_n d_TS_init_157 rfl ?_)
        refine a_go (by decide) (v_getR d_TS_init_158 rfl rfl rfl ?_)
        refine a_go (by decide) (v_getR d_TS_init_161 rfl rfl rfl ?_)
        refine a_go (by decide) (v_iload d_TS_init_164 rfl ?_)
        refine a_go (by decide) (v_iload d_TS_init_166 rfl ?_)
        refine a_go (by decide) (v_bipush d_TS_init_168 kb_64 ?_)
        refine a_go (by decide) (v_imul d_TS_init_170 ?_)
        refine a_go (by decide) (v_iadd d_TS_init_171 ?_)
        refine a_go (by decide) (v_iload d_TS_init_172 rfl ?_)
        refine a_go (by decide) (v_iadd d_TS_init_174 ?_)
        refine a_go (by decide) (v_iload d_TS_init_175 rfl ?_)
        refine a_go (by decide) (v_iconst d_TS_init_177 ki_3 ?_)
        refine a_go (by decide) (v_iload d_TS_init_178 rfl ?_)
        refine a_go (by decide) (v_imul d_TS_init_180 ?_)
        refine a_go (by decide) (v_iadd d_TS_init_181 ?_)
        refine a_go (by decide) (v_callS d_TS_init_182 rfl (mm_spl 3 rfl) rfl (Nat.le_of_ble_eq_true rfl) ?_)
        refine (i_putByte rfl ?_)
        refine a_go (by decide) (v_iinc d_TS_init_185 (by decide) rfl ki_1 ?_)
        refine a_go (by decide) (v_goto d_TS_init_188 (t := 150) (by decide) ?_)
        refine a_cut (by decide) ⟨rfl, _, [(0, _), (1, _), (5, _), (6, _), (7, _), (8, _)], ?_, (mm_all_c rfl (mm_all_c rfl (mm_all_c rfl (mm_all_c rfl (mm_all_c rfl (mm_all_c rfl (mm_all_n))))))), (Or.inr (⟨rfl, _, _, _, _, _, _, _, rfl, rfl, hok, (mm_cg (P := fun z => okl_TSi_140 fo u1 u5 u6 (u7 + (1 : Int32)) z) okr (mm_ifn c3 rfl)), (mm_mvS hk (congrArg (fun z => l_TSi_140 fo u1 u5 u6 (u7 + (1 : Int32)) z) (mm_ifn c3 rfl)))⟩))⟩
        exact mm_nest1
