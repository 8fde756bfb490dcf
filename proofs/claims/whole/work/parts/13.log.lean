-- TwoSlots$Log.isWhole(I)Z
def e_isWhole (v0 : Int32) (x : mm_S) : Int32 :=
  let y1 := e_byteAt 4096 1 (v0 + (5 : Int32)) x
  if (e_byteAt 4096 1 v0 x) = (0 : Int32) then
    if (e_byteAt 4096 1 (v0 + (15 : Int32)) x) = (90 : Int32) then
      if (2 : Int32) ≤ (e_byteAt 4096 1 (v0 + (4 : Int32)) x) then
        (0 : Int32)
      else
        if y1 < (2 : Int32) then
          if (3 : Int32) < (e_byteAt 4096 1 (v0 + (6 : Int32)) x) then
            (0 : Int32)
          else
            (1 : Int32)
        else
          if y1 = (255 : Int32) then
            if (3 : Int32) < (e_byteAt 4096 1 (v0 + (6 : Int32)) x) then
              (0 : Int32)
            else
              (1 : Int32)
          else
            (0 : Int32)
    else
      (0 : Int32)
  else
    (0 : Int32)
def S_isWhole : mm_P := fun as x K => ∃ (v0 : Int32), as = [.ref 3, .int v0] ∧ K (some (.int (e_isWhole v0 x))) x
theorem i_isWhole {v0 : Int32} {x : mm_S} {K : mm_K} (hk : K (some (.int (e_isWhole v0 x))) x) : S_isWhole [.ref 3, .int v0] x K := ⟨_, rfl, hk⟩
def G_isWhole : mm_G := (FT_LG, CI_LG, CJ_LG, mm_tb [(57, 2, S_byteAt)], mm_tb [], none)
def rm_isWhole : Room := { frames := 1, cells := 0, slots := 0, locals := 21 }
set_option maxRecDepth 10000 in
theorem c_isWhole (l : Launch) : mm_Con l NW CL TB LC y_LG_isWhole b_LG_isWhole 3 (some .boolean) rm_isWhole S_isWhole := by
  refine mm_con G_isWhole [] (fun _ _ _ _ _ _ _ => False) (by decide +kernel) tb_good LC_u nw_nest ?_ rfl ft_LG ci_LG cj_LG ?_ ?_ ?_ ?_
  · rintro as x K ⟨v0, rfl, -⟩
    exact Nat.le_of_ble_eq_true rfl
  · exact mm_tb_e (List.forall_mem_cons.mpr ⟨mm_cst_i (c_byteAt l) (mm_cb_i rfl rfl (by decide) (by decide) tc_TS_byteAt ti_TS ⟨by decide, by decide, by decide +kernel⟩ (Or.inr ⟨_, tl_LG_57⟩)) ts_TS_byteAt, fun _ h => absurd h List.not_mem_nil⟩)
  · exact mm_tb_e (fun _ h => absurd h List.not_mem_nil)
  · rintro as x K ⟨v0, rfl, hk⟩
    refine ⟨400, ?_⟩
    refine v_aload_n d_LG_isWhole_0 rfl ?_
    refine a_go (by decide) (v_getR d_LG_isWhole_1 rfl rfl rfl ?_)
    refine a_go (by decide) (v_getR d_LG_isWhole_4 rfl rfl rfl ?_)
    refine a_go (by decide) (v_iload_n d_LG_isWhole_7 rfl ?_)
    refine a_go (by decide) (v_iconst d_LG_isWhole_8 ki_5 ?_)
    refine a_go (by decide) (v_iadd d_LG_isWhole_9 ?_)
    refine a_go (by decide) (v_callS d_LG_isWhole_10 rfl (mm_spl 2 rfl) rfl (Nat.le_of_ble_eq_true rfl) ?_)
    refine (i_byteAt rfl ?_)
    refine a_go (by decide) (v_istore_n d_LG_isWhole_13 (by decide) ?_)
    refine a_go (by decide) (v_aload_n d_LG_isWhole_14 rfl ?_)
    refine a_go (by decide) (v_getR d_LG_isWhole_15 rfl rfl rfl ?_)
    refine a_go (by decide) (v_getR d_LG_isWhole_18 rfl rfl rfl ?_)
    refine a_go (by decide) (v_iload_n d_LG_isWhole_21 rfl ?_)
    refine a_go (by decide) (v_callS d_LG_isWhole_22 rfl (mm_spl 2 rfl) rfl (Nat.le_of_ble_eq_true rfl) ?_)
    refine (i_byteAt rfl ?_)
    refine a_go (by decide) (v_if_ne d_LG_isWhole_25 (t := 98) (by decide) (fun c1 => ?_) (fun c1 => ?_))
    · skip
      refine a_go (by decide) (v_iconst d_LG_isWhole_98 ki_0 ?_)
      refine a_go (by decide) (v_zreturn d_LG_isWhole_99 rfl (by decide) ?_)
      exact mm_fiV hk (mm_ifn c1 rfl)
    · skip
      refine a_go (by decide) (v_aload_n d_LG_isWhole_28 rfl ?_)
      refine a_go (by decide) (v_getR d_LG_isWhole_29 rfl rfl rfl ?_)
      refine a_go (by decide) (v_getR d_LG_isWhole_32 rfl rfl rfl ?_)
      refine a_go (by decide) (v_iload_n d_LG_isWhole_35 rfl ?_)
      refine a_go (by decide) (v_bipush d_LG_isWhole_36 kb_15 ?_)
      refine a_go (by decide) (v_iadd d_LG_isWhole_38 ?_)
      refine a_go (by decide) (v_callS d_LG_isWhole_39 rfl (mm_spl 2 rfl) rfl (Nat.le_of_ble_eq_true rfl) ?_)
      refine (i_byteAt rfl ?_)
      refine a_go (by decide) (v_bipush d_LG_isWhole_42 kb_90 ?_)
      refine a_go (by decide) (v_icmp_ne d_LG_isWhole_44 (t := 98) (by decide) (fun c2 => ?_) (fun c2 => ?_))
      · skip
        refine a_go (by decide) (v_iconst d_LG_isWhole_98 ki_0 ?_)
        refine a_go (by decide) (v_zreturn d_LG_isWhole_99 rfl (by decide) ?_)
        exact mm_fiV hk (mm_ifp c1 (mm_ifn c2 rfl))
      · skip
        refine a_go (by decide) (v_aload_n d_LG_isWhole_47 rfl ?_)
        refine a_go (by decide) (v_getR d_LG_isWhole_48 rfl rfl rfl ?_)
        refine a_go (by decide) (v_getR d_LG_isWhole_51 rfl rfl rfl ?_)
        refine a_go (by decide) (v_iload_n d_LG_isWhole_54 rfl ?_)
        refine a_go (by decide) (v_iconst d_LG_isWhole_55 ki_4 ?_)
        refine a_go (by decide) (v_iadd d_LG_isWhole_56 ?_)
        refine a_go (by decide) (v_callS d_LG_isWhole_57 rfl (mm_spl 2 rfl) rfl (Nat.le_of_ble_eq_true rfl) ?_)
        refine (i_byteAt rfl ?_)
        refine a_go (by decide) (v_iconst d_LG_isWhole_60 ki_2 ?_)
        refine a_go (by decide) (v_icmp_ge d_LG_isWhole_61 (t := 98) (by decide) (fun c3 => ?_) (fun c3 => ?_))
        · skip
          refine a_go (by decide) (v_iconst d_LG_isWhole_98 ki_0 ?_)
          refine a_go (by decide) (v_zreturn d_LG_isWhole_99 rfl (by decide) ?_)
          exact mm_fiV hk (mm_ifp c1 (mm_ifp c2 (mm_ifp c3 rfl)))
        · skip
          refine a_go (by decide) (v_iload_n d_LG_isWhole_64 rfl ?_)
          refine a_go (by decide) (v_iconst d_LG_isWhole_65 ki_2 ?_)
          refine a_go (by decide) (v_icmp_lt d_LG_isWhole_66 (t := 76) (by decide) (fun c4 => ?_) (fun c4 => ?_))
          · skip
            refine a_go (by decide) (v_aload_n d_LG_isWhole_76 rfl ?_)
            refine a_go (by decide) (v_getR d_LG_isWhole_77 rfl rfl rfl ?_)
            refine a_go (by decide) (v_getR d_LG_isWhole_80 rfl rfl rfl ?_)
            refine a_go (by decide) (v_iload_n d_LG_isWhole_83 rfl ?_)
            refine a_go (by decide) (v_bipush d_LG_isWhole_84 kb_6 ?_)
            refine a_go (by decide) (v_iadd d_LG_isWhole_86 ?_)
            refine a_go (by decide) (v_callS d_LG_isWhole_87 rfl (mm_spl 2 rfl) rfl (Nat.le_of_ble_eq_true rfl) ?_)
            refine (i_byteAt rfl ?_)
            refine a_go (by decide) (v_iconst d_LG_isWhole_90 ki_3 ?_)
            refine a_go (by decide) (v_icmp_gt d_LG_isWhole_91 (t := 98) (by decide) (fun c5 => ?_) (fun c5 => ?_))
            · skip
              refine a_go (by decide) (v_iconst d_LG_isWhole_98 ki_0 ?_)
              refine a_go (by decide) (v_zreturn d_LG_isWhole_99 rfl (by decide) ?_)
              exact mm_fiV hk (mm_ifp c1 (mm_ifp c2 (mm_ifn c3 (mm_ifp c4 (mm_ifp c5 rfl)))))
            · skip
              refine a_go (by decide) (v_iconst d_LG_isWhole_94 ki_1 ?_)
              refine a_go (by decide) (v_goto d_LG_isWhole_95 (t := 99) (by decide) ?_)
              refine a_go (by decide) (v_zreturn d_LG_isWhole_99 rfl (by decide) ?_)
              exact mm_fiV hk (mm_ifp c1 (mm_ifp c2 (mm_ifn c3 (mm_ifp c4 (mm_ifn c5 rfl)))))
          · skip
            refine a_go (by decide) (v_iload_n d_LG_isWhole_69 rfl ?_)
            refine a_go (by decide) (v_sipush d_LG_isWhole_70 ks_255 ?_)
            refine a_go (by decide) (v_icmp_ne d_LG_isWhole_73 (t := 98) (by decide) (fun c6 => ?_) (fun c6 => ?_))
            · skip
              refine a_go (by decide) (v_iconst d_LG_isWhole_98 ki_0 ?_)
              refine a_go (by decide) (v_zreturn d_LG_isWhole_99 rfl (by decide) ?_)
              exact mm_fiV hk (mm_ifp c1 (mm_ifp c2 (mm_ifn c3 (mm_ifn c4 (mm_ifn c6 rfl)))))
            · skip
              refine a_go (by decide) (v_aload_n d_LG_isWhole_76 rfl ?_)
              refine a_go (by decide) (v_getR d_LG_isWhole_77 rfl rfl rfl ?_)
              refine a_go (by decide) (v_getR d_LG_isWhole_80 rfl rfl rfl ?_)
              refine a_go (by decide) (v_iload_n d_LG_isWhole_83 rfl ?_)
              refine a_go (by decide) (v_bipush d_LG_isWhole_84 kb_6 ?_)
              refine a_go (by decide) (v_iadd d_LG_isWhole_86 ?_)
              refine a_go (by decide) (v_callS d_LG_isWhole_87 rfl (mm_spl 2 rfl) rfl (Nat.le_of_ble_eq_true rfl) ?_)
              refine (i_byteAt rfl ?_)
              refine a_go (by decide) (v_iconst d_LG_isWhole_90 ki_3 ?_)
              refine a_go (by decide) (v_icmp_gt d_LG_isWhole_91 (t := 98) (by decide) (fun c7 => ?_) (fun c7 => ?_))
              · skip
                refine a_go (by decide) (v_iconst d_LG_isWhole_98 ki_0 ?_)
                refine a_go (by decide) (v_zreturn d_LG_isWhole_99 rfl (by decide) ?_)
                exact mm_fiV hk (mm_ifp c1 (mm_ifp c2 (mm_ifn c3 (mm_ifn c4 (mm_ifp c6 (mm_ifp c7 rfl))))))
              · skip
                refine a_go (by decide) (v_iconst d_LG_isWhole_94 ki_1 ?_)
                refine a_go (by decide) (v_goto d_LG_isWhole_95 (t := 99) (by decide) ?_)
                refine a_go (by decide) (v_zreturn d_LG_isWhole_99 rfl (by decide) ?_)
                exact mm_fiV hk (mm_ifp c1 (mm_ifp c2 (mm_ifn c3 (mm_ifn c4 (mm_ifp c6 (mm_ifn c7 rfl))))))
  · intro as x K _ k pc lv x' h
    cases h
-- TwoSlots$Log.isBlank(I)Z
def l_isBlank_2 (k : Nat) (u1 : Int32) (u2 : Int32) (x : mm_S) : Int32 := match k with
  | 0 => 0
  | k + 1 =>
    if (16 : Int32) ≤ u2 then
      (1 : Int32)
    else
      if (e_byteAt 4096 1 (u1 + u2) x) = (255 : Int32) then
        l_isBlank_2 (k) u1 (u2 + (1 : Int32)) x
      else
        (0 : Int32)
def e_isBlank (v0 : Int32) (x : mm_S) : Int32 :=
  l_isBlank_2 (mm_fu (0 : Int32) 16) v0 (0 : Int32) x
def S_isBlank : mm_P := fun as x K => ∃ (v0 : Int32), as = [.ref 3, .int v0] ∧ K (some (.int (e_isBlank v0 x))) x
theorem i_isBlank {v0 : Int32} {x : mm_S} {K : mm_K} (hk : K (some (.int (e_isBlank v0 x))) x) : S_isBlank [.ref 3, .int v0] x K := ⟨_, rfl, hk⟩
def G_isBlank : mm_G := (FT_LG, CI_LG, CJ_LG, mm_tb [(57, 2, S_byteAt)], mm_tb [], none)
def rm_isBlank : Room := { frames := 1, cells := 0, slots := 0, locals := 21 }
abbrev Inv_isBlank : mm_K → List Value → mm_S → Nat → Nat → mm_V → mm_S → Prop := fun K _ _ k pc lv x => pc = 2 ∧ ∃ (u1 : Int32) (u2 : Int32), lv = [(0, .ref 3), (1, .int u1), (2, .int u2)] ∧ mm_ms u2 16 < k ∧ K (some (.int (l_isBlank_2 k u1 u2 x))) x
set_option maxRecDepth 10000 in
theorem c_isBlank (l : Launch) : mm_Con l NW CL TB LC y_LG_isBlank b_LG_isBlank 3 (some .boolean) rm_isBlank S_isBlank := by
  refine mm_con G_isBlank [2] Inv_isBlank (by decide +kernel) tb_good LC_u nw_nest ?_ rfl ft_LG ci_LG cj_LG ?_ ?_ ?_ ?_
  · rintro as x K ⟨v0, rfl, -⟩
    exact Nat.le_of_ble_eq_true rfl
  · exact mm_tb_e (List.forall_mem_cons.mpr ⟨mm_cst_i (c_byteAt l) (mm_cb_i rfl rfl (by decide) (by decide) tc_TS_byteAt ti_TS ⟨by decide, by decide, by decide +kernel⟩ (Or.inr ⟨_, tl_LG_57⟩)) ts_TS_byteAt, fun _ h => absurd h List.not_mem_nil⟩)
  · exact mm_tb_e (fun _ h => absurd h List.not_mem_nil)
  · rintro as x K ⟨v0, rfl, hk⟩
    refine ⟨400, ?_⟩
    refine v_iconst d_LG_isBlank_0 ki_0 ?_
    refine a_go (by decide) (v_istore_n d_LG_isBlank_1 (by decide) ?_)
    refine a_cut (by decide) ⟨rfl, _, [(0, _), (1, _), (2, _)], (mm_all_c rfl (mm_all_c rfl (mm_all_c rfl (mm_all_n)))), rfl, _, _, rfl, ?_, (mm_mvV hk rfl)⟩
    · exact mm_ent _ _
  · rintro as x0 K - k pc lv x - ⟨rfl, u1, u2, rfl, hm, hk⟩
    obtain ⟨k, rfl⟩ := mm_pos hm
    refine ⟨400, ?_⟩
    refine v_iload_n d_LG_isBlank_2 rfl ?_
    refine a_go (by decide) (v_bipush d_LG_isBlank_3 kb_16 ?_)
    refine a_go (by decide) (v_icmp_ge d_LG_isBlank_5 (t := 35) (by decide) (fun c1 => ?_) (fun c1 => ?_))
    · skip
      refine a_go (by decide) (v_iconst d_LG_isBlank_35 ki_1 ?_)
      refine a_go (by decide) (v_zreturn d_LG_isBlank_36 rfl (by decide) ?_)
      exact mm_fiV hk (mm_ifp c1 rfl)
    · skip
      refine a_go (by decide) (v_aload_n d_LG_isBlank_8 rfl ?_)
      refine a_go (by decide) (v_getR d_LG_isBlank_9 rfl rfl rfl ?_)
      refine a_go (by decide) (v_getR d_LG_isBlank_12 rfl rfl rfl ?_)
      refine a_go (by decide) (v_iload_n d_LG_isBlank_15 rfl ?_)
      refine a_go (by decide) (v_iload_n d_LG_isBlank_16 rfl ?_)
      refine a_go (by decide) (v_iadd d_LG_isBlank_17 ?_)
      refine a_go (by decide) (v_callS d_LG_isBlank_18 rfl (mm_spl 2 rfl) rfl (Nat.le_of_ble_eq_true rfl) ?_)
      refine (i_byteAt rfl ?_)
      refine a_go (by decide) (v_sipush d_LG_isBlank_21 ks_255 ?_)
      refine a_go (by decide) (v_icmp_eq d_LG_isBlank_24 (t := 29) (by decide) (fun c2 => ?_) (fun c2 => ?_))
      · skip
        refine a_go (by decide) (v_iinc d_LG_isBlank_29 (by decide) rfl ki_1 ?_)
        refine a_go (by decide) (v_goto d_LG_isBlank_32 (t := 2) (by decide) ?_)
        refine a_cut (by decide) ⟨rfl, _, [(0, _), (1, _), (2, _)], ?_, (mm_all_c rfl (mm_all_c rfl (mm_all_c rfl (mm_all_n)))), rfl, _, _, rfl, ?_, (mm_mvV hk (mm_ifn c1 (mm_ifp c2 rfl)))⟩
        · exact Nat.lt_succ_self _
        · exact mm_dec c1 hm
      · skip
        refine a_go (by decide) (v_iconst d_LG_isBlank_27 ki_0 ?_)
        refine a_go (by decide) (v_zreturn d_LG_isBlank_28 rfl (by decide) ?_)
        exact mm_fiV hk (mm_ifn c1 (mm_ifn c2 rfl))
/-- where the newest record begins: at a line of the first two sectors, or nowhere -/
def mm_J (x : mm_S) : Prop := x.1 21 = -1 ∨ x.1 21 = 0 ∨ x.1 21 = 16 ∨ x.1 21 = 32 ∨ x.1 21 = 48 ∨ x.1 21 = 64 ∨ x.1 21 = 80 ∨ x.1 21 = 96 ∨ x.1 21 = 112
theorem mm_Jc {x x' : mm_S} (e : x'.1 21 = x.1 21) (h : mm_J x) : mm_J x' := by
  unfold mm_J at h ⊢
  rw [e]
  exact h
theorem mm_J_end {x : mm_S} (h : mm_J x) : (x.1 21 / 64 + 1) * 64 ≤ 128 := by
  rcases h with h | h | h | h | h | h | h | h | h <;> rw [h] <;> decide
theorem mm_Js {x : mm_S} {r : Nat} {v : Int32} (hr : ¬ 21 = r) (h : mm_J x) : mm_J (mm_setI x r v) := mm_Jc (show upd x.1 r v 21 = x.1 21 from if_neg hr) h
def mm_JP (q : Int32 × mm_S) : Prop := mm_J q.2
theorem mm_JPi {v : Int32} {x : mm_S} (h : mm_J x) : mm_JP (v, x) := h
theorem mm_JifVS {c : Prop} {inst : Decidable c} {a b : Int32 × mm_S} (h1 : c → mm_JP a) (h2 : ¬ c → mm_JP b) : mm_JP (@ite _ c inst a b) := by
  by_cases hc : c
  · rw [if_pos hc]; exact h1 hc
  · rw [if_neg hc]; exact h2 hc
-- TwoSlots$Log.blankLineBehindNewest()I
def l_blankLine_21 (k : Nat) (u1 : Int32) (u2 : Int32) (x : mm_S) : Int32 := match k with
  | 0 => 0
  | k + 1 =>
    if u1 ≤ u2 then
      (-1 : Int32)
    else
      if (e_isBlank u2 x) = (0 : Int32) then
        l_blankLine_21 (k) u1 (u2 + (16 : Int32)) x
      else
        u2
def e_blankLine (x : mm_S) : Int32 :=
  let y1 := (((x.1 21) / (64 : Int32)) + (1 : Int32)) * (64 : Int32)
  let y2 := (x.1 21) + (16 : Int32)
  l_blankLine_21 (mm_fu y2 y1) y1 y2 x
def S_blankLine : mm_P := fun as x K => as = [.ref 3] ∧ (mm_J x) ∧ K (some (.int (e_blankLine x))) x
theorem i_blankLine {x : mm_S} {K : mm_K} (hpre : (mm_J x)) (hk : K (some (.int (e_blankLine x))) x) : S_blankLine [.ref 3] x K := ⟨rfl, hpre, hk⟩
def G_blankLine : mm_G := (FT_LG, CI_LG, CJ_LG, mm_tb [], mm_tb [(107, 2, 2, S_isBlank)], none)
def rm_blankLine : Room := { frames := 2, cells := 0, slots := 0, locals := 43 }
abbrev Inv_blankLine : mm_K → List Value → mm_S → Nat → Nat → mm_V → mm_S → Prop := fun K _ _ k pc lv x => pc = 21 ∧ ∃ (u1 : Int32) (u2 : Int32), lv = [(0, .ref 3), (1, .int u1), (2, .int u2)] ∧ mm_ms u2 u1 < k ∧ (u1 ≤ 128) ∧ K (some (.int (l_blankLine_21 k u1 u2 x))) x
set_option maxRecDepth 10000 in
theorem c_blankLine (l : Launch) : mm_Con l NW CL TB LC y_LG_blankLineBehindNewest b_LG_blankLineBehindNewest 3 (some .int) rm_blankLine S_blankLine := by
  refine mm_con G_blankLine [21] Inv_blankLine (by decide +kernel) tb_good LC_u nw_nest ?_ rfl ft_LG ci_LG cj_LG ?_ ?_ ?_ ?_
  · rintro as x K ⟨rfl, -⟩
    exact Nat.le_of_ble_eq_true rfl
  · exact mm_tb_e (fun _ h => absurd h List.not_mem_nil)
  · exact mm_tb_e (List.forall_mem_cons.mpr ⟨mm_cvt_i (c_isBlank l) (mm_cb_i rfl rfl (by decide) (by decide) tc_LG_isBlank ti_LG ⟨by decide, by decide, by decide +kernel⟩ (Or.inl tl_LG_107)) rfl tv_LG_isBlank tx_LG_isBlank, fun _ h => absurd h List.not_mem_nil⟩)
  · rintro as x K ⟨rfl, hpre, hk⟩
    refine ⟨400, ?_⟩
    refine v_aload_n d_LG_blankLineBehindNewest_0 rfl ?_
    refine a_go (by decide) (v_getI d_LG_blankLineBehindNewest_1 rfl rfl rfl ?_)
    refine a_go (by decide) (v_bipush d_LG_blankLineBehindNewest_4 kb_64 ?_)
    refine a_go (by decide) (v_idiv d_LG_blankLineBehindNewest_6 (by decide) ?_)
    refine a_go (by decide) (v_iconst d_LG_blankLineBehindNewest_7 ki_1 ?_)
    refine a_go (by decide) (v_iadd d_LG_blankLineBehindNewest_8 ?_)
    refine a_go (by decide) (v_bipush d_LG_blankLineBehindNewest_9 kb_64 ?_)
    refine a_go (by decide) (v_imul d_LG_blankLineBehindNewest_11 ?_)
    refine a_go (by decide) (v_istore_n d_LG_blankLineBehindNewest_12 (by decide) ?_)
    refine a_go (by decide) (v_aload_n d_LG_blankLineBehindNewest_13 rfl ?_)
    refine a_go (by decide) (v_getI d_LG_blankLineBehindNewest_14 rfl rfl rfl ?_)
    refine a_go (by decide) (v_bipush d_LG_blankLineBehindNewest_17 kb_16 ?_)
    refine a_go (by decide) (v_iadd d_LG_blankLineBehindNewest_19 ?_)
    refine a_go (by decide) (v_istore_n d_LG_blankLineBehindNewest_20 (by decide) ?_)
    refine a_cut (by decide) ⟨rfl, _, [(0, _), (1, _), (2, _)], (mm_all_c rfl (mm_all_c rfl (mm_all_c rfl (mm_all_n)))), rfl, _, _, rfl, ?_, ?_, (mm_mvV hk rfl)⟩
    · exact mm_ent _ _
    · exact mm_J_end hpre
  · rintro as x0 K - k pc lv x - ⟨rfl, u1, u2, rfl, hm, hs0, hk⟩
    obtain ⟨k, rfl⟩ := mm_pos hm
    refine ⟨400, ?_⟩
    refine v_iload_n d_LG_blankLineBehindNewest_21 rfl ?_
    refine a_go (by decide) (v_iload_n d_LG_blankLineBehindNewest_22 rfl ?_)
    refine a_go (by decide) (v_icmp_ge d_LG_blankLineBehindNewest_23 (t := 42) (by decide) (fun c1 => ?_) (fun c1 => ?_))
    · skip
      refine a_go (by decide) (v_iconst d_LG_blankLineBehindNewest_42 ki_m1 ?_)
      refine a_go (by decide) (v_ireturn d_LG_blankLineBehindNewest_43 rfl rfl ?_)
      exact mm_fiV hk (mm_ifp c1 rfl)
    · skip
      refine a_go (by decide) (v_aload_n d_LG_blankLineBehindNewest_26 rfl ?_)
      refine a_go (by decide) (v_iload_n d_LG_blankLineBehindNewest_27 rfl ?_)
      refine a_go (by decide) (v_callV d_LG_blankLineBehindNewest_28 rfl (mm_spl 2 rfl) rfl (Nat.le_of_ble_eq_true rfl) rfl ?_)
      refine (i_isBlank ?_)
      refine a_go (by decide) (v_if_eq d_LG_blankLineBehindNewest_31 (t := 36) (by decide) (fun c2 => ?_) (fun c2 => ?_))
      · skip
        refine a_go (by decide) (v_iinc d_LG_blankLineBehindNewest_36 (by decide) rfl ki_16 ?_)
        refine a_go (by decide) (v_goto d_LG_blankLineBehindNewest_39 (t := 21) (by decide) ?_)
        refine a_cut (by decide) ⟨rfl, _, [(0, _), (1, _), (2, _)], ?_, (mm_all_c rfl (mm_all_c rfl (mm_all_c rfl (mm_all_n)))), rfl, _, _, rfl, ?_, ?_, (mm_mvV hk (mm_ifn c1 (mm_ifp c2 rfl)))⟩
        · exact Nat.lt_succ_self _
        · exact mm_dec16 c1 hs0 hm
        · exact hs0
      · skip
        refine a_go (by decide) (v_iload_n d_LG_blankLineBehindNewest_34 rfl ?_)
        refine a_go (by decide) (v_ireturn d_LG_blankLineBehindNewest_35 rfl rfl ?_)
        exact mm_fiV hk (mm_ifn c1 (mm_ifn c2 rfl))
-- TwoSlots$Log.look()V
def l_look_12 (k : Nat) (u1 : Int32) (x : mm_S) : mm_S := match k with
  | 0 => x
  | k + 1 =>
    if (128 : Int32) ≤ u1 then
      if (x.1 21) = (-1 : Int32) then
        let x3 := mm_setI x 24 (-1 : Int32)
        let x4 := mm_setI x3 23 (-1 : Int32)
        let x5 := mm_setI x4 25 (0 : Int32)
        let x6 := mm_setI x5 26 (0 : Int32)
        let x7 := mm_setI x6 27 (0 : Int32)
        x7
      else
        let y8 := e_byteAt 4096 1 ((x.1 21) + (5 : Int32)) x
        if y8 = (255 : Int32) then
          let x14 := mm_setI x 24 (-1 : Int32)
          let x15 := mm_setI x14 23 (e_byteAt 4096 1 ((x14.1 21) + (4 : Int32)) x14)
          let x16 := mm_setI x15 25 (e_byteAt 4096 1 ((x15.1 21) + (6 : Int32)) x15)
          let x17 := mm_setI x16 26 (e_byteAt 4096 1 ((x16.1 21) + (7 : Int32)) x16)
          let x18 := mm_setI x17 27 (Int64.toInt32 (e_numberAt 4096 1 ((x17.1 21) + (8 : Int32)) (4 : Int32) x17))
          x18
        else
          let x9 := mm_setI x 24 y8
          let x10 := mm_setI x9 23 (e_byteAt 4096 1 ((x9.1 21) + (4 : Int32)) x9)
          let x11 := mm_setI x10 25 (e_byteAt 4096 1 ((x10.1 21) + (6 : Int32)) x10)
          let x12 := mm_setI x11 26 (e_byteAt 4096 1 ((x11.1 21) + (7 : Int32)) x11)
          let x13 := mm_setI x12 27 (Int64.toInt32 (e_numberAt 4096 1 ((x12.1 21) + (8 : Int32)) (4 : Int32) x12))
          x13
    else
      let y19 := Int64.toInt32 (e_numberAt 4096 1 (u1 + (0 : Int32)) (4 : Int32) x)
      if (e_isWhole u1 x) = (0 : Int32) then
        l_look_12 (k) (u1 + (16 : Int32)) x
      else
        if (x.1 21) = (-1 : Int32) then
          let x20 := mm_setI x 21 u1
          let x21 := mm_setI x20 22 y19
          l_look_12 (k) (u1 + (16 : Int32)) x21
        else
          if (e_ucompare y19 (x.1 22) x) ≤ (0 : Int32) then
            l_look_12 (k) (u1 + (16 : Int32)) x
          else
            let x22 := mm_setI x 21 u1
            let x23 := mm_setI x22 22 y19
            l_look_12 (k) (u1 + (16 : Int32)) x23
def e_look (x : mm_S) : mm_S :=
  let x1 := mm_setI x 21 (-1 : Int32)
  let x2 := mm_setI x1 22 (0 : Int32)
  l_look_12 (mm_fu (0 : Int32) 128) (0 : Int32) x2
def S_look : mm_P := fun as x K => as = [.ref 3] ∧ K none (e_look x)
theorem i_look {x : mm_S} {K : mm_K} (hk : K none (e_look x)) : S_look [.ref 3] x K := ⟨rfl, hk⟩
def G_look : mm_G := (FT_LG, CI_LG, CJ_LG, mm_tb [(57, 2, S_byteAt), (68, 3, S_numberAt), (76, 2, S_ucompare)], mm_tb [(72, 2, 2, S_isWhole)], none)
def rm_look : Room := { frames := 2, cells := 0, slots := 0, locals := 43 }
abbrev Inv_look : mm_K → List Value → mm_S → Nat → Nat → mm_V → mm_S → Prop := fun K _ _ k pc lv x => pc = 12 ∧ ∃ (u1 : Int32), lv = [(0, .ref 3), (1, .int u1)] ∧ mm_ms u1 128 < k ∧ K none (l_look_12 k u1 x)
set_option maxRecDepth 10000 in
theorem c_look (l : Launch) : mm_Con l NW CL TB LC y_LG_look b_LG_look 3 (none) rm_look S_look := by
  refine mm_con G_look [12] Inv_look (by decide +kernel) tb_good LC_u nw_nest ?_ rfl ft_LG ci_LG cj_LG ?_ ?_ ?_ ?_
  · rintro as x K ⟨rfl, -⟩
    exact Nat.le_of_ble_eq_true rfl
  · exact mm_tb_e (List.forall_mem_cons.mpr ⟨mm_cst_i (c_byteAt l) (mm_cb_i rfl rfl (by decide) (by decide) tc_TS_byteAt ti_TS ⟨by decide, by decide, by decide +kernel⟩ (Or.inr ⟨_, tl_LG_57⟩)) ts_TS_byteAt, List.forall_mem_cons.mpr ⟨mm_cst_i (c_numberAt l) (mm_cb_i rfl rfl (by decide) (by decide) tc_TS_numberAt ti_TS ⟨by decide, by decide, by decide +kernel⟩ (Or.inr ⟨_, tl_LG_68⟩)) ts_TS_numberAt, List.forall_mem_cons.mpr ⟨mm_cst_i (c_ucompare LC LC_u LC_n l) (mm_cb_i rfl rfl (by decide) (by decide) tc_JI_compareUnsigned ti_JI ⟨by decide, by decide, by decide +kernel⟩ (Or.inl tl_LG_76)) ts_JI_compareUnsigned, fun _ h => absurd h List.not_mem_nil⟩⟩⟩)
  · exact mm_tb_e (List.forall_mem_cons.mpr ⟨mm_cvt_i (c_isWhole l) (mm_cb_i rfl rfl (by decide) (by decide) tc_LG_isWhole ti_LG ⟨by decide, by decide, by decide +kernel⟩ (Or.inl tl_LG_72)) rfl tv_LG_isWhole tx_LG_isWhole, fun _ h => absurd h List.not_mem_nil⟩)
  · rintro as x K ⟨rfl, hk⟩
    refine ⟨400, ?_⟩
    refine v_aload_n d_LG_look_0 rfl ?_
    refine a_go (by decide) (v_iconst d_LG_look_1 ki_m1 ?_)
    refine a_go (by decide) (v_putI d_LG_look_2 rfl rfl rfl ?_)
    refine a_go (by decide) (v_aload_n d_LG_look_5 rfl ?_)
    refine a_go (by decide) (v_iconst d_LG_look_6 ki_0 ?_)
    refine a_go (by decide) (v_putI d_LG_look_7 rfl rfl rfl ?_)
    refine a_go (by decide) (v_iconst d_LG_look_10 ki_0 ?_)
    refine a_go (by decide) (v_istore_n d_LG_look_11 (by decide) ?_)
    refine a_cut (by decide) ⟨rfl, _, [(0, _), (1, _)], (mm_all_c rfl (mm_all_c rfl (mm_all_n))), rfl, _, rfl, ?_, (mm_mvS hk rfl)⟩
    · exact mm_ent _ _
  · rintro as x0 K - k pc lv x - ⟨rfl, u1, rfl, hm, hk⟩
    obtain ⟨k, rfl⟩ := mm_pos hm
    refine ⟨400, ?_⟩
    refine v_iload_n d_LG_look_12 rfl ?_
    refine a_go (by decide) (v_sipush d_LG_look_13 ks_128 ?_)
    refine a_go (by decide) (v_icmp_ge d_LG_look_16 (t := 78) (by decide) (fun c1 => ?_) (fun c1 => ?_))
    · skip
      refine a_go (by decide) (v_aload_n d_LG_look_78 rfl ?_)
      refine a_go (by decide) (v_getI d_LG_look_79 rfl rfl rfl ?_)
      refine a_go (by decide) (v_iconst d_LG_look_82 ki_m1 ?_)
      refine a_go (by decide) (v_icmp_eq d_LG_look_83 (t := 90) (by decide) (fun c2 => ?_) (fun c2 => ?_))
      · skip
        refine a_go (by decide) (v_iconst d_LG_look_90 ki_0 ?_)
        refine a_go (by decide) (v_istore_n d_LG_look_91 (by decide) ?_)
        refine a_go (by decide) (v_iload_n d_LG_look_92 rfl ?_)
        refine a_go (by decide) (v_if_eq d_LG_look_93 (t := 115) (by decide) (fun c3 => ?_) (fun c3 => absurd c3 (by decide)))
        refine a_go (by decide) (v_sipush d_LG_look_115 ks_255 ?_)
        refine a_go (by decide) (v_istore_n d_LG_look_118 (by decide) ?_)
        refine a_go (by decide) (v_aload_n d_LG_look_119 rfl ?_)
        refine a_go (by decide) (v_iload_n d_LG_look_120 rfl ?_)
        refine a_go (by decide) (v_sipush d_LG_look_121 ks_255 ?_)
        refine a_go (by decide) (v_icmp_ne d_LG_look_124 (t := 131) (by decide) (fun c4 => absurd c4 (by decide)) (fun c4 => ?_))
        refine a_go (by decide) (v_iconst d_LG_look_127 ki_m1 ?_)
        refine a_go (by decide) (v_goto d_LG_look_128 (t := 132) (by decide) ?_)
        refine a_go (by decide) (v_putI d_LG_look_132 rfl rfl rfl ?_)
        refine a_go (by decide) (v_aload_n d_LG_look_135 rfl ?_)
        refine a_go (by decide) (v_iload_n d_LG_look_136 rfl ?_)
        refine a_go (by decide) (v_if_eq d_LG_look_137 (t := 159) (by decide) (fun c5 => ?_) (fun c5 => absurd c5 (by decide)))
        refine a_go (by decide) (v_iconst d_LG_look_159 ki_m1 ?_)
        refine a_go (by decide) (v_putI d_LG_look_160 rfl rfl rfl ?_)
        refine a_go (by decide) (v_aload_n d_LG_look_163 rfl ?_)
        refine a_go (by decide) (v_iload_n d_LG_look_164 rfl ?_)
        refine a_go (by decide) (v_if_eq d_LG_look_165 (t := 188) (by decide) (fun c6 => ?_) (fun c6 => absurd c6 (by decide)))
        refine a_go (by decide) (v_iconst d_LG_look_188 ki_0 ?_)
        refine a_go (by decide) (v_putI d_LG_look_189 rfl rfl rfl ?_)
        refine a_go (by decide) (v_aload_n d_LG_look_192 rfl ?_)
        refine a_go (by decide) (v_iload_n d_LG_look_193 rfl ?_)
        refine a_go (by decide) (v_if_eq d_LG_look_194 (t := 217) (by decide) (fun c7 => ?_) (fun c7 => absurd c7 (by decide)))
        refine a_go (by decide) (v_iconst d_LG_look_217 ki_0 ?_)
        refine a_go (by decide) (v_putI d_LG_look_218 rfl rfl rfl ?_)
        refine a_go (by decide) (v_aload_n d_LG_look_221 rfl ?_)
        refine a_go (by decide) (v_iload_n d_LG_look_222 rfl ?_)
        refine a_go (by decide) (v_if_eq d_LG_look_223 (t := 248) (by decide) (fun c8 => ?_) (fun c8 => absurd c8 (by decide)))
        refine a_go (by decide) (v_iconst d_LG_look_248 ki_0 ?_)
        refine a_go (by decide) (v_putI d_LG_look_249 rfl rfl rfl ?_)
        refine a_go (by decide) (v_return d_LG_look_252 rfl ?_)
        exact mm_fiS hk (mm_ifp c1 (mm_ifp c2 rfl))
      · skip
        refine a_go (by decide) (v_iconst d_LG_look_86 ki_1 ?_)
        refine a_go (by decide) (v_goto d_LG_look_87 (t := 91) (by decide) ?_)
        refine a_go (by decide) (v_istore_n d_LG_look_91 (by decide) ?_)
        refine a_go (by decide) (v_iload_n d_LG_look_92 rfl ?_)
        refine a_go (by decide) (v_if_eq d_LG_look_93 (t := 115) (by decide) (fun c9 => absurd c9 (by decide)) (fun c9 => ?_))
        refine a_go (by decide) (v_aload_n d_LG_look_96 rfl ?_)
        refine a_go (by decide) (v_getR d_LG_look_97 rfl rfl rfl ?_)
        refine a_go (by decide) (v_getR d_LG_look_100 rfl rfl rfl ?_)
        refine a_go (by decide) (v_aload_n d_LG_look_103 rfl ?_)
        refine a_go (by decide) (v_getI d_LG_look_104 rfl rfl rfl ?_)
        refine a_go (by decide) (v_iconst d_LG_look_107 ki_5 ?_)
        refine a_go (by decide) (v_iadd d_LG_look_108 ?_)
        refine a_go (by decide) (v_callS d_LG_look_109 rfl (mm_spl 2 rfl) rfl (Nat.le_of_ble_eq_true rfl) ?_)
        refine (i_byteAt rfl ?_)
        refine a_go (by decide) (v_goto d_LG_look_112 (t := 118) (by decide) ?_)
        refine a_go (by decide) (v_istore_n d_LG_look_118 (by decide) ?_)
        refine a_go (by decide) (v_aload_n d_LG_look_119 rfl ?_)
        refine a_go (by decide) (v_iload_n d_LG_look_120 rfl ?_)
        refine a_go (by decide) (v_sipush d_LG_look_121 ks_255 ?_)
        refine a_go (by decide) (v_icmp_ne d_LG_look_124 (t := 131) (by decide) (fun c10 => ?_) (fun c10 => ?_))
        · skip
          refine a_go (by decide) (v_iload_n d_LG_look_131 rfl ?_)
          refine a_go (by decide) (v_putI d_LG_look_132 rfl rfl rfl ?_)
          refine a_go (by decide) (v_aload_n d_LG_look_135 rfl ?_)
          refine a_go (by decide) (v_iload_n d_LG_look_136 rfl ?_)
          refine a_go (by decide) (v_if_eq d_LG_look_137 (t := 159) (by decide) (fun c11 => absurd c11 (by decide)) (fun c11 => ?_))
          refine a_go (by decide) (v_aload_n d_LG_look_140 rfl ?_)
          refine a_go (by decide) (v_getR d_LG_look_141 rfl rfl rfl ?_)
          refine a_go (by decide) (v_getR d_LG_look_144 rfl rfl rfl ?_)
          refine a_go (by decide) (v_aload_n d_LG_look_147 rfl ?_)
          refine a_go (by decide) (v_getI d_LG_look_148 rfl rfl rfl ?_)
          refine a_go (by decide) (v_iconst d_LG_look_151 ki_4 ?_)
          refine a_go (by decide) (v_iadd d_LG_look_152 ?_)
          refine a_go (by decide) (v_callS d_LG_look_153 rfl (mm_spl 2 rfl) rfl (Nat.le_of_ble_eq_true rfl) ?_)
          refine (i_byteAt rfl ?_)
          refine a_go (by decide) (v_goto d_LG_look_156 (t := 160) (by decide) ?_)
          refine a_go (by decide) (v_putI d_LG_look_160 rfl rfl rfl ?_)
          refine a_go (by decide) (v_aload_n d_LG_look_163 rfl ?_)
          refine a_go (by decide) (v_iload_n d_LG_look_164 rfl ?_)
          refine a_go (by decide) (v_if_eq d_LG_look_165 (t := 188) (by decide) (fun c12 => absurd c12 (by decide)) (fun c12 => ?_))
          refine a_go (by decide) (v_aload_n d_LG_look_168 rfl ?_)
          refine a_go (by decide) (v_getR d_LG_look_169 rfl rfl rfl ?_)
          refine a_go (by decide) (v_getR d_LG_look_172 rfl rfl rfl ?_)
          refine a_go (by decide) (v_aload_n d_LG_look_175 rfl ?_)
          refine a_go (by decide) (v_getI d_LG_look_176 rfl rfl rfl ?_)
          refine a_go (by decide) (v_bipush d_LG_look_179 kb_6 ?_)
          refine a_go (by decide) (v_iadd d_LG_look_181 ?_)
          refine a_go (by decide) (v_callS d_LG_look_182 rfl (mm_spl 2 rfl) rfl (Nat.le_of_ble_eq_true rfl) ?_)
          refine (i_byteAt rfl ?_)
          refine a_go (by decide) (v_goto d_LG_look_185 (t := 189) (by decide) ?_)
          refine a_go (by decide) (v_putI d_LG_look_189 rfl rfl rfl ?_)
          refine a_go (by decide) (v_aload_n d_LG_look_192 rfl ?_)
          refine a_go (by decide) (v_iload_n d_LG_look_193 rfl ?_)
          refine a_go (by decide) (v_if_eq d_LG_look_194 (t := 217) (by decide) (fun c13 => absurd c13 (by decide)) (fun c13 => ?_))
          refine a_go (by decide) (v_aload_n d_LG_look_197 rfl ?_)
          refine a_go (by decide) (v_getR d_LG_look_198 rfl rfl rfl ?_)
          refine a_go (by decide) (v_getR d_LG_look_201 rfl rfl rfl ?_)
          refine a_go (by decide) (v_aload_n d_LG_look_204 rfl ?_)
          refine a_go (by decide) (v_getI d_LG_look_205 rfl rfl rfl ?_)
          refine a_go (by decide) (v_bipush d_LG_look_208 kb_7 ?_)
          refine a_go (by decide) (v_iadd d_LG_look_210 ?_)
          refine a_go (by decide) (v_callS d_LG_look_211 rfl (mm_spl 2 rfl) rfl (Nat.le_of_ble_eq_true rfl) ?_)
          refine (i_byteAt rfl ?_)
          refine a_go (by decide) (v_goto d_LG_look_214 (t := 218) (by decide) ?_)
          refine a_go (by decide) (v_putI d_LG_look_218 rfl rfl rfl ?_)
          refine a_go (by decide) (v_aload_n d_LG_look_221 rfl ?_)
          refine a_go (by decide) (v_iload_n d_LG_look_222 rfl ?_)
          refine a_go (by decide) (v_if_eq d_LG_look_223 (t := 248) (by decide) (fun c14 => absurd c14 (by decide)) (fun c14 => ?_))
          refine a_go (by decide) (v_aload_n d_LG_look_226 rfl ?_)
          refine a_go (by decide) (v_getR d_LG_look_227 rfl rfl rfl ?_)
          refine a_go (by decide) (v_getR d_LG_look_230 rfl rfl rfl ?_)
          refine a_go (by decide) (v_aload_n d_LG_look_233 rfl ?_)
          refine a_go (by decide) (v_getI d_LG_look_234 rfl rfl rfl ?_)
          refine a_go (by decide) (v_bipush d_LG_look_237 kb_8 ?_)
          refine a_go (by decide) (v_iadd d_LG_look_239 ?_)
          refine a_go (by decide) (v_iconst d_LG_look_240 ki_4 ?_)
          refine a_go (by decide) (v_callS d_LG_look_241 rfl (mm_spl 3 rfl) rfl (Nat.le_of_ble_eq_true rfl) ?_)
          refine (i_numberAt rfl (by decide) ?_)
          refine a_go (by decide) (v_l2i d_LG_look_244 ?_)
          refine a_go (by decide) (v_goto d_LG_look_245 (t := 249) (by decide) ?_)
          refine a_go (by decide) (v_putI d_LG_look_249 rfl rfl rfl ?_)
          refine a_go (by decide) (v_return d_LG_look_252 rfl ?_)
          exact mm_fiS hk (mm_ifp c1 (mm_ifn c2 (mm_ifn c10 rfl)))
        · skip
          refine a_go (by decide) (v_iconst d_LG_look_127 ki_m1 ?_)
          refine a_go (by decide) (v_goto d_LG_look_128 (t := 132) (by decide) ?_)
          refine a_go (by decide) (v_putI d_LG_look_132 rfl rfl rfl ?_)
          refine a_go (by decide) (v_aload_n d_LG_look_135 rfl ?_)
          refine a_go (by decide) (v_iload_n d_LG_look_136 rfl ?_)
          refine a_go (by decide) (v_if_eq d_LG_look_137 (t := 159) (by decide) (fun c15 => absurd c15 (by decide)) (fun c15 => ?_))
          refine a_go (by decide) (v_aload_n d_LG_look_140 rfl ?_)
          refine a_go (by decide) (v_getR d_LG_look_141 rfl rfl rfl ?_)
          refine a_go (by decide) (v_getR d_LG_look_144 rfl rfl rfl ?_)
          refine a_go (by decide) (v_aload_n d_LG_look_147 rfl ?_)
          refine a_go (by decide) (v_getI d_LG_look_148 rfl rfl rfl ?_)
          refine a_go (by decide) (v_iconst d_LG_look_151 ki_4 ?_)
          refine a_go (by decide) (v_iadd d_LG_look_152 ?_)
          refine a_go (by decide) (v_callS d_LG_look_153 rfl (mm_spl 2 rfl) rfl (Nat.le_of_ble_eq_true rfl) ?_)
          refine (i_byteAt rfl ?_)
          refine a_go (by decide) (v_goto d_LG_look_156 (t := 160) (by decide) ?_)
          refine a_go (by decide) (v_putI d_LG_look_160 rfl rfl rfl ?_)
          refine a_go (by decide) (v_aload_n d_LG_look_163 rfl ?_)
          refine a_go (by decide) (v_iload_n d_LG_look_164 rfl ?_)
          refine a_go (by decide) (v_if_eq d_LG_look_165 (t := 188) (by decide) (fun c16 => absurd c16 (by decide)) (fun c16 => ?_))
          refine a_go (by decide) (v_aload_n d_LG_look_168 rfl ?_)
          refine a_go (by decide) (v_getR d_LG_look_169 rfl rfl rfl ?_)
          refine a_go (by decide) (v_getR d_LG_look_172 rfl rfl rfl ?_)
          refine a_go (by decide) (v_aload_n d_LG_look_175 rfl ?_)
          refine a_go (by decide) (v_getI d_LG_look_176 rfl rfl rfl ?_)
          refine a_go (by decide) (v_bipush d_LG_look_179 kb_6 ?_)
          refine a_go (by decide) (v_iadd d_LG_look_181 ?_)
          refine a_go (by decide) (v_callS d_LG_look_182 rfl (mm_spl 2 rfl) rfl (Nat.le_of_ble_eq_true rfl) ?_)
          refine (i_byteAt rfl ?_)
          refine a_go (by decide) (v_goto d_LG_look_185 (t := 189) (by decide) ?_)
          refine a_go (by decide) (v_putI d_LG_look_189 rfl rfl rfl ?_)
          refine a_go (by decide) (v_aload_n d_LG_look_192 rfl ?_)
          refine a_go (by decide) (v_iload_n d_LG_look_193 rfl ?_)
          refine a_go (by decide) (v_if_eq d_LG_look_194 (t := 217) (by decide) (fun c17 => absurd c17 (by decide)) (fun c17 => ?_))
          refine a_go (by decide) (v_aload_n d_LG_look_197 rfl ?_)
          refine a_go (by decide) (v_getR d_LG_look_198 rfl rfl rfl ?_)
          refine a_go (by decide) (v_getR d_LG_look_201 rfl rfl rfl ?_)
          refine a_go (by decide) (v_aload_n d_LG_look_204 rfl ?_)
          refine a_go (by decide) (v_getI d_LG_look_205 rfl rfl rfl ?_)
          refine a_go (by decide) (v_bipush d_LG_look_208 kb_7 ?_)
          refine a_go (by decide) (v_iadd d_LG_look_210 ?_)
          refine a_go (by decide) (v_callS d_LG_look_211 rfl (mm_spl 2 rfl) rfl (Nat.le_of_ble_eq_true rfl) ?_)
          refine (i_byteAt rfl ?_)
          refine a_go (by decide) (v_goto d_LG_look_214 (t := 218) (by decide) ?_)
          refine a_go (by decide) (v_putI d_LG_look_218 rfl rfl rfl ?_)
          refine a_go (by decide) (v_aload_n d_LG_look_221 rfl ?_)
          refine a_go (by decide) (v_iload_n d_LG_look_222 rfl ?_)
          refine a_go (by decide) (v_if_eq d_LG_look_223 (t := 248) (by decide) (fun c18 => absurd c18 (by decide)) (fun c18 => ?_))
          refine a_go (by decide) (v_aload_n d_LG_look_226 rfl ?_)
          refine a_go (by decide) (v_getR d_LG_look_227 rfl rfl rfl ?_)
          refine a_go (by decide) (v_getR d_LG_look_230 rfl rfl rfl ?_)
          refine a_go (by decide) (v_aload_n d_LG_look_233 rfl ?_)
          refine a_go (by decide) (v_getI d_LG_look_234 rfl rfl rfl ?_)
          refine a_go (by decide) (v_bipush d_LG_look_237 kb_8 ?_)
          refine a_go (by decide) (v_iadd d_LG_look_239 ?_)
          refine a_go (by decide) (v_iconst d_LG_look_240 ki_4 ?_)
          refine a_go (by decide) (v_callS d_LG_look_241 rfl (mm_spl 3 rfl) rfl (Nat.le_of_ble_eq_true rfl) ?_)
          refine (i_numberAt rfl (by decide) ?_)
          refine a_go (by decide) (v_l2i d_LG_look_244 ?_)
          refine a_go (by decide) (v_goto d_LG_look_245 (t := 249) (by decide) ?_)
          refine a_go (by decide) (v_putI d_LG_look_249 rfl rfl rfl ?_)
          refine a_go (by decide) (v_return d_LG_look_252 rfl ?_)
          exact mm_fiS hk (mm_ifp c1 (mm_ifn c2 (mm_ifp c10 rfl)))
    · skip
      refine a_go (by decide) (v_aload_n d_LG_look_19 rfl ?_)
      refine a_go (by decide) (v_getR d_LG_look_20 rfl rfl rfl ?_)
      refine a_go (by decide) (v_getR d_LG_look_23 rfl rfl rfl ?_)
      refine a_go (by decide) (v_iload_n d_LG_look_26 rfl ?_)
      refine a_go (by decide) (v_iconst d_LG_look_27 ki_0 ?_)
      refine a_go (by decide) (v_iadd d_LG_look_28 ?_)
      refine a_go (by decide) (v_iconst d_LG_look_29 ki_4 ?_)
      refine a_go (by decide) (v_callS d_LG_look_30 rfl (mm_spl 3 rfl) rfl (Nat.le_of_ble_eq_true rfl) ?_)
      refine (i_numberAt rfl (by decide) ?_)
      refine a_go (by decide) (v_l2i d_LG_look_33 ?_)
      refine a_go (by decide) (v_istore_n d_LG_look_34 (by decide) ?_)
      refine a_go (by decide) (v_aload_n d_LG_look_35 rfl ?_)
      refine a_go (by decide) (v_iload_n d_LG_look_36 rfl ?_)
      refine a_go (by decide) (v_callV d_LG_look_37 rfl (mm_spl 2 rfl) rfl (Nat.le_of_ble_eq_true rfl) rfl ?_)
      refine (i_isWhole ?_)
      refine a_go (by decide) (v_if_eq d_LG_look_40 (t := 72) (by decide) (fun c19 => ?_) (fun c19 => ?_))
      · skip
        refine a_go (by decide) (v_iinc d_LG_look_72 (by decide) rfl ki_16 ?_)
        refine a_go (by decide) (v_goto d_LG_look_75 (t := 12) (by decide) ?_)
        refine a_cut (by decide) ⟨rfl, _, [(0, _), (1, _)], ?_, (mm_all_c rfl (mm_all_c rfl (mm_all_n))), rfl, _, rfl, ?_, (mm_mvS hk (mm_ifn c1 (mm_ifp c19 rfl)))⟩
        · exact Nat.lt_succ_self _
        · exact mm_dec16 c1 (Int32.le_refl _) hm
      · skip
        refine a_go (by decide) (v_aload_n d_LG_look_43 rfl ?_)
        refine a_go (by decide) (v_getI d_LG_look_44 rfl rfl rfl ?_)
        refine a_go (by decide) (v_iconst d_LG_look_47 ki_m1 ?_)
        refine a_go (by decide) (v_icmp_eq d_LG_look_48 (t := 62) (by decide) (fun c20 => ?_) (fun c20 => ?_))
        · skip
          refine a_go (by decide) (v_aload_n d_LG_look_62 rfl ?_)
          refine a_go (by decide) (v_iload_n d_LG_look_63 rfl ?_)
          refine a_go (by decide) (v_putI d_LG_look_64 rfl rfl rfl ?_)
          refine a_go (by decide) (v_aload_n d_LG_look_67 rfl ?_)
          refine a_go (by decide) (v_iload_n d_LG_look_68 rfl ?_)
          refine a_go (by decide) (v_putI d_LG_look_69 rfl rfl rfl ?_)
          refine a_go (by decide) (v_iinc d_LG_look_72 (by decide) rfl ki_16 ?_)
          refine a_go (by decide) (v_goto d_LG_look_75 (t := 12) (by decide) ?_)
          refine a_cut (by decide) ⟨rfl, _, [(0, _), (1, _)], ?_, (mm_all_c rfl (mm_all_c rfl (mm_all_n))), rfl, _, rfl, ?_, (mm_mvS hk (mm_ifn c1 (mm_ifn c19 (mm_ifp c20 rfl))))⟩
          · exact Nat.lt_succ_self _
          · exact mm_dec16 c1 (Int32.le_refl _) hm
        · skip
          refine a_go (by decide) (v_iload_n d_LG_look_51 rfl ?_)
          refine a_go (by decide) (v_aload_n d_LG_look_52 rfl ?_)
          refine a_go (by decide) (v_getI d_LG_look_53 rfl rfl rfl ?_)
          refine a_go (by decide) (v_callS d_LG_look_56 rfl (mm_spl 2 rfl) rfl (Nat.le_of_ble_eq_true rfl) ?_)
          refine (i_ucompare ?_)
          refine a_go (by decide) (v_if_le d_LG_look_59 (t := 72) (by decide) (fun c21 => ?_) (fun c21 => ?_))
          · skip
            refine a_go (by decide) (v_iinc d_LG_look_72 (by decide) rfl ki_16 ?_)
            refine a_go (by decide) (v_goto d_LG_look_75 (t := 12) (by decide) ?_)
            refine a_cut (by decide) ⟨rfl, _, [(0, _), (1, _)], ?_, (mm_all_c rfl (mm_all_c rfl (mm_all_n))), rfl, _, rfl, ?_, (mm_mvS hk (mm_ifn c1 (mm_ifn c19 (mm_ifn c20 (mm_ifp c21 rfl)))))⟩
            · exact Nat.lt_succ_self _
            · exact mm_dec16 c1 (Int32.le_refl _) hm
          · skip
            refine a_go (by decide) (v_aload_n d_LG_look_62 rfl ?_)
            refine a_go (by decide) (v_iload_n d_LG_look_63 rfl ?_)
            refine a_go (by decide) (v_putI d_LG_look_64 rfl rfl rfl ?_)
            refine a_go (by decide) (v_aload_n d_LG_look_67 rfl ?_)
            refine a_go (by decide) (v_iload_n d_LG_look_68 rfl ?_)
            refine a_go (by decide) (v_putI d_LG_look_69 rfl rfl rfl ?_)
            refine a_go (by decide) (v_iinc d_LG_look_72 (by decide) rfl ki_16 ?_)
            refine a_go (by decide) (v_goto d_LG_look_75 (t := 12) (by decide) ?_)
            refine a_cut (by decide) ⟨rfl, _, [(0, _), (1, _)], ?_, (mm_all_c rfl (mm_all_c rfl (mm_all_n))), rfl, _, rfl, ?_, (mm_mvS hk (mm_ifn c1 (mm_ifn c19 (mm_ifn c20 (mm_ifn c21 rfl)))))⟩
            · exact Nat.lt_succ_self _
            · exact mm_dec16 c1 (Int32.le_refl _) hm
theorem mm_J_put (x : mm_S) {u : Int32} (v : Int32) (h : u = 0 ∨ u = 16 ∨ u = 32 ∨ u = 48 ∨ u = 64 ∨ u = 80 ∨ u = 96 ∨ u = 112) : mm_J (mm_setI (mm_setI x 21 u) 22 v) := Or.inr h
theorem l_look_J (k : Nat) : ∀ (u : Int32) (x : mm_S), (u = 0 ∨ u = 16 ∨ u = 32 ∨ u = 48 ∨ u = 64 ∨ u = 80 ∨ u = 96 ∨ u = 112 ∨ u = 128) → mm_J x → mm_J (l_look_12 k u x) := by
  induction k with
  | zero => intro u x _ h; exact h
  | succ k ih =>
    intro u x hu h
    have hn : ∀ (c : ¬ (128 : Int32) ≤ u), (u = 0 ∨ u = 16 ∨ u = 32 ∨ u = 48 ∨ u = 64 ∨ u = 80 ∨ u = 96 ∨ u = 112) ∧ (u + 16 = 0 ∨ u + 16 = 16 ∨ u + 16 = 32 ∨ u + 16 = 48 ∨ u + 16 = 64 ∨ u + 16 = 80 ∨ u + 16 = 96 ∨ u + 16 = 112 ∨ u + 16 = 128) := by
      intro c
      rcases hu with e | e | e | e | e | e | e | e | e <;> subst e <;> first | exact absurd (by decide) c | decide
    simp only [l_look_12]
    split
    · split
      · exact h
      · split <;> exact h
    · next c =>
      obtain ⟨h1, h2⟩ := hn c
      split
      · exact ih _ _ h2 h
      · split
        · exact ih _ _ h2 (mm_J_put x _ h1)
        · split
          · exact ih _ _ h2 h
          · exact ih _ _ h2 (mm_J_put x _ h1)
theorem e_look_J (x : mm_S) : mm_J (e_look x) := l_look_J _ _ _ (Or.inl rfl) (Or.inl rfl)
-- TwoSlots$Log.compose(IIIII)V
def e_lcompose (v0 : Int32) (v1 : Int32) (v2 : Int32) (v3 : Int32) (v4 : Int32) (x : mm_S) : mm_S :=
  let x1 := e_fill 16 2 (0 : Int32) x
  let x2 := e_putByte 16 2 (4 : Int32) v0 x1
  if v1 = (-1 : Int32) then
    let x8 := e_putByte 16 2 (5 : Int32) (255 : Int32) x2
    let x9 := e_putByte 16 2 (6 : Int32) v2 x8
    let x10 := e_putByte 16 2 (7 : Int32) v3 x9
    let x11 := e_putNumber 16 2 (8 : Int32) (4 : Int32) (Int32.toInt64 v4) x10
    let x12 := e_putByte 16 2 (15 : Int32) (90 : Int32) x11
    x12
  else
    let x3 := e_putByte 16 2 (5 : Int32) v1 x2
    let x4 := e_putByte 16 2 (6 : Int32) v2 x3
    let x5 := e_putByte 16 2 (7 : Int32) v3 x4
    let x6 := e_putNumber 16 2 (8 : Int32) (4 : Int32) (Int32.toInt64 v4) x5
    let x7 := e_putByte 16 2 (15 : Int32) (90 : Int32) x6
    x7
def S_lcompose : mm_P := fun as x K => ∃ (v0 : Int32) (v1 : Int32) (v2 : Int32) (v3 : Int32) (v4 : Int32), as = [.ref 3, .int v0, .int v1, .int v2, .int v3, .int v4] ∧ K none (e_lcompose v0 v1 v2 v3 v4 x)
theorem i_lcompose {v0 : Int32} {v1 : Int32} {v2 : Int32} {v3 : Int32} {v4 : Int32} {x : mm_S} {K : mm_K} (hk : K none (e_lcompose v0 v1 v2 v3 v4 x)) : S_lcompose [.ref 3, .int v0, .int v1, .int v2, .int v3, .int v4] x K := ⟨_, _, _, _, _, rfl, hk⟩
def G_lcompose : mm_G := (FT_LG, CI_LG, CJ_LG, mm_tb [(101, 2, (S_fill LC)), (61, 3, S_putByte), (48, 4, S_putNumber)], mm_tb [], none)
def rm_lcompose : Room := { frames := 2, cells := 0, slots := 0, locals := 47 }
set_option maxRecDepth 10000 in
theorem c_lcompose (l : Launch) : mm_Con l NW CL TB LC y_LG_compose b_LG_compose 6 (none) rm_lcompose S_lcompose := by
  refine mm_con G_lcompose [] (fun _ _ _ _ _ _ _ => False) (by decide +kernel) tb_good LC_u nw_nest ?_ rfl ft_LG ci_LG cj_LG ?_ ?_ ?_ ?_
  · rintro as x K ⟨v0, v1, v2, v3, v4, rfl, -⟩
    exact Nat.le_of_ble_eq_true rfl
  · exact mm_tb_e (List.forall_mem_cons.mpr ⟨mm_cst_i (c_fill LC LC_u LC_n l) (mm_cb_i rfl rfl (by decide) (by decide) tc_JA_fill ti_JA ⟨by decide, by decide, by decide +kernel⟩ (Or.inl tl_LG_101)) ts_JA_fill, List.forall_mem_cons.mpr ⟨mm_cst_i (c_putByte l) (mm_cb_i rfl rfl (by decide) (by decide) tc_TS_putByte ti_TS ⟨by decide, by decide, by decide +kernel⟩ (Or.inr ⟨_, tl_LG_61⟩)) ts_TS_putByte, List.forall_mem_cons.mpr ⟨mm_cst_i (c_putNumber l) (mm_cb_i rfl rfl (by decide) (by decide) tc_TS_putNumber ti_TS ⟨by decide, by decide, by decide +kernel⟩ (Or.inr ⟨_, tl_LG_48⟩)) ts_TS_putNumber, fun _ h => absurd h List.not_mem_nil⟩⟩⟩)
  · exact mm_tb_e (fun _ h => absurd h List.not_mem_nil)
  · rintro as x K ⟨v0, v1, v2, v3, v4, rfl, hk⟩
    refine ⟨400, ?_⟩
    refine v_aload_n d_LG_compose_0 rfl ?_
    refine a_go (by decide) (v_getR d_LG_compose_1 rfl rfl rfl ?_)
    refine a_go (by decide) (v_iconst d_LG_compose_4 ki_0 ?_)
    refine a_go (by decide) (v_callS d_LG_compose_5 rfl (mm_spl 2 rfl) rfl (Nat.le_of_ble_eq_true rfl) ?_)
    refine (i_fill rfl ?_)
    refine a_go (by decide) (v_aload_n d_LG_compose_8 rfl ?_)
    refine a_go (by decide) (v_getR d_LG_compose_9 rfl rfl rfl ?_)
    refine a_go (by decide) (v_iconst d_LG_compose_12 ki_4 ?_)
    refine a_go (by decide) (v_iload_n d_LG_compose_13 rfl ?_)
    refine a_go (by decide) (v_callS d_LG_compose_14 rfl (mm_spl 3 rfl) rfl (Nat.le_of_ble_eq_true rfl) ?_)
    refine (i_putByte rfl ?_)
    refine a_go (by decide) (v_aload_n d_LG_compose_17 rfl ?_)
    refine a_go (by decide) (v_getR d_LG_compose_18 rfl rfl rfl ?_)
    refine a_go (by decide) (v_iconst d_LG_compose_21 ki_5 ?_)
    refine a_go (by decide) (v_iload_n d_LG_compose_22 rfl ?_)
    refine a_go (by decide) (v_iconst d_LG_compose_23 ki_m1 ?_)
    refine a_go (by decide) (v_icmp_ne d_LG_compose_24 (t := 33) (by decide) (fun c1 => ?_) (fun c1 => ?_))
    · skip
      refine a_go (by decide) (v_iload_n d_LG_compose_33 rfl ?_)
      refine a_go (by decide) (v_callS d_LG_compose_34 rfl (mm_spl 3 rfl) rfl (Nat.le_of_ble_eq_true rfl) ?_)
      refine (i_putByte rfl ?_)
      refine a_go (by decide) (v_aload_n d_LG_compose_37 rfl ?_)
      refine a_go (by decide) (v_getR d_LG_compose_38 rfl rfl rfl ?_)
      refine a_go (by decide) (v_bipush d_LG_compose_41 kb_6 ?_)
      refine a_go (by decide) (v_iload_n d_LG_compose_43 rfl ?_)
      refine a_go (by decide) (v_callS d_LG_compose_44 rfl (mm_spl 3 rfl) rfl (Nat.le_of_ble_eq_true rfl) ?_)
      refine (i_putByte rfl ?_)
      refine a_go (by decide) (v_aload_n d_LG_compose_47 rfl ?_)
      refine a_go (by decide) (v_getR d_LG_compose_48 rfl rfl rfl ?_)
      refine a_go (by decide) (v_bipush d_LG_compose_51 kb_7 ?_)
      refine a_go (by decide) (v_iload d_LG_compose_53 rfl ?_)
      refine a_go (by decide) (v_callS d_LG_compose_55 rfl (mm_spl 3 rfl) rfl (Nat.le_of_ble_eq_true rfl) ?_)
      refine (i_putByte rfl ?_)
      refine a_go (by decide) (v_aload_n d_LG_compose_58 rfl ?_)
      refine a_go (by decide) (v_getR d_LG_compose_59 rfl rfl rfl ?_)
      refine a_go (by decide) (v_bipush d_LG_compose_62 kb_8 ?_)
      refine a_go (by decide) (v_iconst d_LG_compose_64 ki_4 ?_)
      refine a_go (by decide) (v_iload d_LG_compose_65 rfl ?_)
      refine a_go (by decide) (v_i2l d_LG_compose_67 ?_)
      refine a_go (by decide) (v_callS d_LG_compose_68 rfl (mm_spl 4 rfl) rfl (Nat.le_of_ble_eq_true rfl) ?_)
      refine (i_putNumber rfl ?_)
      refine a_go (by decide) (v_aload_n d_LG_compose_71 rfl ?_)
      refine a_go (by decide) (v_getR d_LG_compose_72 rfl rfl rfl ?_)
      refine a_go (by decide) (v_bipush d_LG_compose_75 kb_15 ?_)
      refine a_go (by decide) (v_bipush d_LG_compose_77 kb_90 ?_)
      refine a_go (by decide) (v_callS d_LG_compose_79 rfl (mm_spl 3 rfl) rfl (Nat.le_of_ble_eq_true rfl) ?_)
      refine (i_putByte rfl ?_)
      refine a_go (by decide) (v_return d_LG_compose_82 rfl ?_)
      exact mm_fiS hk (mm_ifn c1 rfl)
    · skip
      refine a_go (by decide) (v_sipush d_LG_compose_27 ks_255 ?_)
      refine a_go (by decide) (v_goto d_LG_compose_30 (t := 34) (by decide) ?_)
      refine a_go (by decide) (v_callS d_LG_compose_34 rfl (mm_spl 3 rfl) rfl (Nat.le_of_ble_eq_true rfl) ?_)
      refine (i_putByte rfl ?_)
      refine a_go (by decide) (v_aload_n d_LG_compose_37 rfl ?_)
      refine a_go (by decide) (v_getR d_LG_compose_38 rfl rfl rfl ?_)
      refine a_go (by decide) (v_bipush d_LG_compose_41 kb_6 ?_)
      refine a_go (by decide) (v_iload_n d_LG_compose_43 rfl ?_)
      refine a_go (by decide) (v_callS d_LG_compose_44 rfl (mm_spl 3 rfl) rfl (Nat.le_of_ble_eq_true rfl) ?_)
      refine (i_putByte rfl ?_)
      refine a_go (by decide) (v_aload_n d_LG_compose_47 rfl ?_)
      refine a_go (by decide) (v_getR d_LG_compose_48 rfl rfl rfl ?_)
      refine a_go (by decide) (v_bipush d_LG_compose_51 kb_7 ?_)
      refine a_go (by decide) (v_iload d_LG_compose_53 rfl ?_)
      refine a_go (by decide) (v_callS d_LG_compose_55 rfl (mm_spl 3 rfl) rfl (Nat.le_of_ble_eq_true rfl) ?_)
      refine (i_putByte rfl ?_)
      refine a_go (by decide) (v_aload_n d_LG_compose_58 rfl ?_)
      refine a_go (by decide) (v_getR d_LG_compose_59 rfl rfl rfl ?_)
      refine a_go (by decide) (v_bipush d_LG_compose_62 kb_8 ?_)
      refine a_go (by decide) (v_iconst d_LG_compose_64 ki_4 ?_)
      refine a_go (by decide) (v_iload d_LG_compose_65 rfl ?_)
      refine a_go (by decide) (v_i2l d_LG_compose_67 ?_)
      refine a_go (by decide) (v_callS d_LG_compose_68 rfl (mm_spl 4 rfl) rfl (Nat.le_of_ble_eq_true rfl) ?_)
      refine (i_putNumber rfl ?_)
      refine a_go (by decide) (v_aload_n d_LG_compose_71 rfl ?_)
      refine a_go (by decide) (v_getR d_LG_compose_72 rfl rfl rfl ?_)
      refine a_go (by decide) (v_bipush d_LG_compose_75 kb_15 ?_)
      refine a_go (by decide) (v_bipush d_LG_compose_77 kb_90 ?_)
      refine a_go (by decide) (v_callS d_LG_compose_79 rfl (mm_spl 3 rfl) rfl (Nat.le_of_ble_eq_true rfl) ?_)
      refine (i_putByte rfl ?_)
      refine a_go (by decide) (v_return d_LG_compose_82 rfl ?_)
      exact mm_fiS hk (mm_ifp c1 rfl)
  · intro as x K _ k pc lv x' h
    cases h
theorem e_lcompose_1 (a b c d e : Int32) (x : mm_S) : (e_lcompose a b c d e x).1 = x.1 := by
  simp only [e_lcompose]
  split <;> simp only [e_putByte_1, e_putNumber_1, e_fill_1]
theorem mm_J_app {a b c d e : Int32} {v : Int64} {x : mm_S} (h : mm_J x) : mm_J (e_putNumber 16 2 0 4 v (e_lcompose a b c d e x)) := mm_Jc (by rw [e_putNumber_1, e_lcompose_1]) h
-- TwoSlots$Log.layFirst(I)V
def l_layFirst_21 (k : Nat) (u2 : Int32) (x : mm_S) : mm_S := match k with
  | 0 => x
  | k + 1 =>
    if (16 : Int32) ≤ u2 then
      let x3 := e_look x
      x3
    else
      let x4 := e_putByte 4096 1 u2 (e_byteAt 16 2 u2 x) x
      l_layFirst_21 (k) (u2 + (1 : Int32)) x4
def e_layFirst (v0 : Int32) (x : mm_S) : mm_S :=
  let x1 := e_lcompose (0 : Int32) (-1 : Int32) (0 : Int32) (0 : Int32) v0 x
  let x2 := e_putNumber 16 2 (0 : Int32) (4 : Int32) (1 : Int64) x1
  l_layFirst_21 (mm_fu (0 : Int32) 16) (0 : Int32) x2
def S_layFirst : mm_P := fun as x K => ∃ (v0 : Int32), as = [.ref 3, .int v0] ∧ K none (e_layFirst v0 x)
theorem i_layFirst {v0 : Int32} {x : mm_S} {K : mm_K} (hk : K none (e_layFirst v0 x)) : S_layFirst [.ref 3, .int v0] x K := ⟨_, rfl, hk⟩
def G_layFirst : mm_G := (FT_LG, CI_LG, CJ_LG, mm_tb [(48, 4, S_putNumber), (57, 2, S_byteAt), (61, 3, S_putByte)], mm_tb [(44, 6, 2, S_lcompose), (65, 1, 2, S_look)], none)
def rm_layFirst : Room := { frames := 3, cells := 0, slots := 0, locals := 72 }
abbrev Inv_layFirst : mm_K → List Value → mm_S → Nat → Nat → mm_V → mm_S → Prop := fun K _ _ k pc lv x => pc = 21 ∧ ∃ (u2 : Int32), lv = [(0, .ref 3), (2, .int u2)] ∧ mm_ms u2 16 < k ∧ K none (l_layFirst_21 k u2 x)
set_option maxRecDepth 10000 in
theorem c_layFirst (l : Launch) : mm_Con l NW CL TB LC y_LG_layFirst b_LG_layFirst 3 (none) rm_layFirst S_layFirst := by
  refine mm_con G_layFirst [21] Inv_layFirst (by decide +kernel) tb_good LC_u nw_nest ?_ rfl ft_LG ci_LG cj_LG ?_ ?_ ?_ ?_
  · rintro as x K ⟨v0, rfl, -⟩
    exact Nat.le_of_ble_eq_true rfl
  · exact mm_tb_e (List.forall_mem_cons.mpr ⟨mm_cst_i (c_putNumber l) (mm_cb_i rfl rfl (by decide) (by decide) tc_TS_putNumber ti_TS ⟨by decide, by decide, by decide +kernel⟩ (Or.inr ⟨_, tl_LG_48⟩)) ts_TS_putNumber, List.forall_mem_cons.mpr ⟨mm_cst_i (c_byteAt l) (mm_cb_i rfl rfl (by decide) (by decide) tc_TS_byteAt ti_TS ⟨by decide, by decide, by decide +kernel⟩ (Or.inr ⟨_, tl_LG_57⟩)) ts_TS_byteAt, List.forall_mem_cons.mpr ⟨mm_cst_i (c_putByte l) (mm_cb_i rfl rfl (by decide) (by decide) tc_TS_putByte ti_TS ⟨by decide, by decide, by decide +kernel⟩ (Or.inr ⟨_, tl_LG_61⟩)) ts_TS_putByte, fun _ h => absurd h List.not_mem_nil⟩⟩⟩)
  · exact mm_tb_e (List.forall_mem_cons.mpr ⟨mm_cvt_i (c_lcompose l) (mm_cb_i rfl rfl (by decide) (by decide) tc_LG_compose ti_LG ⟨by decide, by decide, by decide +kernel⟩ (Or.inl tl_LG_44)) rfl tv_LG_compose tx_LG_compose, List.forall_mem_cons.mpr ⟨mm_cvt_i (c_look l) (mm_cb_i rfl rfl (by decide) (by decide) tc_LG_look ti_LG ⟨by decide, by decide, by decide +kernel⟩ (Or.inl tl_LG_65)) rfl tv_LG_look tx_LG_look, fun _ h => absurd h List.not_mem_nil⟩⟩)
  · rintro as x K ⟨v0, rfl, hk⟩
    refine ⟨400, ?_⟩
    refine v_aload_n d_LG_layFirst_0 rfl ?_
    refine a_go (by decide) (v_iconst d_LG_layFirst_1 ki_0 ?_)
    refine a_go (by decide) (v_iconst d_LG_layFirst_2 ki_m1 ?_)
    refine a_go (by decide) (v_iconst d_LG_layFirst_3 ki_0 ?_)
    refine a_go (by decide) (v_iconst d_LG_layFirst_4 ki_0 ?_)
    refine a_go (by decide) (v_iload_n d_LG_layFirst_5 rfl ?_)
    refine a_go (by decide) (v_callV d_LG_layFirst_6 rfl (mm_spl 6 rfl) rfl (Nat.le_of_ble_eq_true rfl) rfl ?_)
    refine (i_lcompose ?_)
    refine a_go (by decide) (v_aload_n d_LG_layFirst_9 rfl ?_)
    refine a_go (by decide) (v_getR d_LG_layFirst_10 rfl rfl rfl ?_)
    refine a_go (by decide) (v_iconst d_LG_layFirst_13 ki_0 ?_)
    refine a_go (by decide) (v_iconst d_LG_layFirst_14 ki_4 ?_)
    refine a_go (by decide) (v_lconst d_LG_layFirst_15 kl_1 ?_)
    refine a_go (by decide) (v_callS d_LG_layFirst_16 rfl (mm_spl 4 rfl) rfl (Nat.le_of_ble_eq_true rfl) ?_)
    refine (i_putNumber rfl ?_)
    refine a_go (by decide) (v_iconst d_LG_layFirst_19 ki_0 ?_)
    refine a_go (by decide) (v_istore_n d_LG_layFirst_20 (by decide) ?_)
    refine a_cut (by decide) ⟨rfl, _, [(0, _), (2, _)], (mm_all_c rfl (mm_all_c rfl (mm_all_n))), rfl, _, rfl, ?_, (mm_mvS hk rfl)⟩
    · exact mm_ent _ _
  · rintro as x0 K - k pc lv x - ⟨rfl, u2, rfl, hm, hk⟩
    obtain ⟨k, rfl⟩ := mm_pos hm
    refine ⟨400, ?_⟩
    refine v_iload_n d_LG_layFirst_21 rfl ?_
    refine a_go (by decide) (v_bipush d_LG_layFirst_22 kb_16 ?_)
    refine a_go (by decide) (v_icmp_ge d_LG_layFirst_24 (t := 52) (by decide) (fun c1 => ?_) (fun c1 => ?_))
    · skip
      refine a_go (by decide) (v_aload_n d_LG_layFirst_52 rfl ?_)
      refine a_go (by decide) (v_callV d_LG_layFirst_53 rfl (mm_spl 1 rfl) rfl (Nat.le_of_ble_eq_true rfl) rfl ?_)
      refine (i_look ?_)
      refine a_go (by decide) (v_return d_LG_layFirst_56 rfl ?_)
      exact mm_fiS hk (mm_ifp c1 rfl)
    · skip
      refine a_go (by decide) (v_aload_n d_LG_layFirst_27 rfl ?_)
      refine a_go (by decide) (v_getR d_LG_layFirst_28 rfl rfl rfl ?_)
      refine a_go (by decide) (v_getR d_LG_layFirst_31 rfl rfl rfl ?_)
      refine a_go (by decide) (v_iload_n d_LG_layFirst_34 rfl ?_)
      refine a_go (by decide) (v_aload_n d_LG_layFirst_35 rfl ?_)
      refine a_go (by decide) (v_getR d_LG_layFirst_36 rfl rfl rfl ?_)
      refine a_go (by decide) (v_iload_n d_LG_layFirst_39 rfl ?_)
      refine a_go (by decide) (v_callS d_LG_layFirst_40 rfl (mm_spl 2 rfl) rfl (Nat.le_of_ble_eq_true rfl) ?_)
      refine (i_byteAt rfl ?_)
      refine a_go (by decide) (v_callS d_LG_layFirst_43 rfl (mm_spl 3 rfl) rfl (Nat.le_of_ble_eq_true rfl) ?_)
      refine (i_putByte rfl ?_)
      refine a_go (by decide) (v_iinc d_LG_layFirst_46 (by decide) rfl ki_1 ?_)
      refine a_go (by decide) (v_goto d_LG_layFirst_49 (t := 21) (by decide) ?_)
      refine a_cut (by decide) ⟨rfl, _, [(0, _), (2, _)], ?_, (mm_all_c rfl (mm_all_c rfl (mm_all_n))), rfl, _, rfl, ?_, (mm_mvS hk (mm_ifn c1 rfl))⟩
      · exact Nat.lt_succ_self _
      · exact mm_dec c1 hm
-- TwoSlots$Log.append(IIIII)Z
def e_append (v0 : Int32) (v1 : Int32) (v2 : Int32) (v3 : Int32) (v4 : Int32) (x : mm_S) : Int32 × mm_S :=
  let x1 := e_lcompose v0 v1 v2 v3 v4 x
  let x2 := e_putNumber 16 2 (0 : Int32) (4 : Int32) (Int32.toInt64 ((x1.1 22) + (1 : Int32))) x1
  let y3 := e_blankLine x2
  if y3 = (-1 : Int32) then
    let y8 := e_other ((x2.1 21) / (64 : Int32)) x2
    let y9 := y8 * (64 : Int32)
    let q10 := e_erase y8 x2
    if q10.1 = (0 : Int32) then
      let x11 := e_look q10.2
      ((0 : Int32), x11)
    else
      let q12 := e_pline y9 16 2 (0 : Int32) q10.2
      if q12.1 = (0 : Int32) then
        let x13 := e_look q12.2
        ((0 : Int32), x13)
      else
        let x14 := mm_setI q12.2 20 ((q12.2.1 20) + (1 : Int32))
        let x15 := e_look x14
        ((1 : Int32), x15)
  else
    let q4 := e_pline y3 16 2 (0 : Int32) x2
    if q4.1 = (0 : Int32) then
      let x5 := e_look q4.2
      ((0 : Int32), x5)
    else
      let x6 := mm_setI q4.2 20 ((q4.2.1 20) + (1 : Int32))
      let x7 := e_look x6
      ((1 : Int32), x7)
def S_append : mm_P := fun as x K => ∃ (v0 : Int32) (v1 : Int32) (v2 : Int32) (v3 : Int32) (v4 : Int32), as = [.ref 3, .int v0, .int v1, .int v2, .int v3, .int v4] ∧ (mm_J x) ∧ K (some (.int (e_append v0 v1 v2 v3 v4 x).1)) (e_append v0 v1 v2 v3 v4 x).2
theorem i_append {v0 : Int32} {v1 : Int32} {v2 : Int32} {v3 : Int32} {v4 : Int32} {x : mm_S} {K : mm_K} (hpre : (mm_J x)) (hk : K (some (.int (e_append v0 v1 v2 v3 v4 x).1)) (e_append v0 v1 v2 v3 v4 x).2) : S_append [.ref 3, .int v0, .int v1, .int v2, .int v3, .int v4] x K := ⟨_, _, _, _, _, rfl, hpre, hk⟩
def G_append : mm_G := (FT_LG, CI_LG, CJ_LG, mm_tb [(48, 4, S_putNumber), (90, 1, S_other)], mm_tb [(44, 6, 2, S_lcompose), (86, 1, 2, S_blankLine), (97, 4, 1, S_pline), (65, 1, 2, S_look), (94, 2, 1, S_erase)], none)
def rm_append : Room := { frames := 3, cells := 0, slots := 0, locals := 72 }
set_option maxRecDepth 10000 in
theorem c_append (l : Launch) : mm_Con l NW CL TB LC y_LG_append b_LG_append 9 (some .boolean) rm_append S_append := by
  refine mm_con G_append [] (fun _ _ _ _ _ _ _ => False) (by decide +kernel) tb_good LC_u nw_nest ?_ rfl ft_LG ci_LG cj_LG ?_ ?_ ?_ ?_
  · rintro as x K ⟨v0, v1, v2, v3, v4, rfl, -⟩
    exact Nat.le_of_ble_eq_true rfl
  · exact mm_tb_e (List.forall_mem_cons.mpr ⟨mm_cst_i (c_putNumber l) (mm_cb_i rfl rfl (by decide) (by decide) tc_TS_putNumber ti_TS ⟨by decide, by decide, by decide +kernel⟩ (Or.inr ⟨_, tl_LG_48⟩)) ts_TS_putNumber, List.forall_mem_cons.mpr ⟨mm_cst_i (c_other l) (mm_cb_i rfl rfl (by decide) (by decide) tc_TS_otherThan ti_TS ⟨by decide, by decide, by decide +kernel⟩ (Or.inr ⟨_, tl_LG_90⟩)) ts_TS_otherThan, fun _ h => absurd h List.not_mem_nil⟩⟩)
  · exact mm_tb_e (List.forall_mem_cons.mpr ⟨mm_cvt_i (c_lcompose l) (mm_cb_i rfl rfl (by decide) (by decide) tc_LG_compose ti_LG ⟨by decide, by decide, by decide +kernel⟩ (Or.inl tl_LG_44)) rfl tv_LG_compose tx_LG_compose, List.forall_mem_cons.mpr ⟨mm_cvt_i (c_blankLine l) (mm_cb_i rfl rfl (by decide) (by decide) tc_LG_blankLineBehindNewest ti_LG ⟨by decide, by decide, by decide +kernel⟩ (Or.inl tl_LG_86)) rfl tv_LG_blankLineBehindNewest tx_LG_blankLineBehindNewest, List.forall_mem_cons.mpr ⟨mm_cvt_i (c_pline l) (mm_cb_i rfl rfl (by decide) (by decide) tc_FL_programLine ti_FL ⟨by decide, by decide, by decide +kernel⟩ (Or.inl tl_LG_97)) rfl tv_FL_programLine tx_FL_programLine, List.forall_mem_cons.mpr ⟨mm_cvt_i (c_look l) (mm_cb_i rfl rfl (by decide) (by decide) tc_LG_look ti_LG ⟨by decide, by decide, by decide +kernel⟩ (Or.inl tl_LG_65)) rfl tv_LG_look tx_LG_look, List.forall_mem_cons.mpr ⟨mm_cvt_i (c_erase l) (mm_cb_i rfl rfl (by decide) (by decide) tc_FL_erase ti_FL ⟨by decide, by decide, by decide +kernel⟩ (Or.inl tl_LG_94)) rfl tv_FL_erase tx_FL_erase, fun _ h => absurd h List.not_mem_nil⟩⟩⟩⟩⟩)
  · rintro as x K ⟨v0, v1, v2, v3, v4, rfl, hpre, hk⟩
    refine ⟨400, ?_⟩
    refine v_aload_n d_LG_append_0 rfl ?_
    refine a_go (by decide) (v_iload_n d_LG_append_1 rfl ?_)
    refine a_go (by decide) (v_iload_n d_LG_append_2 rfl ?_)
    refine a_go (by decide) (v_iload_n d_LG_append_3 rfl ?_)
    refine a_go (by decide) (v_iload d_LG_append_4 rfl ?_)
    refine a_go (by decide) (v_iload d_LG_append_6 rfl ?_)
    refine a_go (by decide) (v_callV d_LG_append_8 rfl (mm_spl 6 rfl) rfl (Nat.le_of_ble_eq_true rfl) rfl ?_)
    refine (i_lcompose ?_)
    refine a_go (by decide) (v_aload_n d_LG_append_11 rfl ?_)
    refine a_go (by decide) (v_getR d_LG_append_12 rfl rfl rfl ?_)
    refine a_go (by decide) (v_iconst d_LG_append_15 ki_0 ?_)
    refine a_go (by decide) (v_iconst d_LG_append_16 ki_4 ?_)
    refine a_go (by decide) (v_aload_n d_LG_append_17 rfl ?_)
    refine a_go (by decide) (v_getI d_LG_append_18 rfl rfl rfl ?_)
    refine a_go (by decide) (v_iconst d_LG_append_21 ki_1 ?_)
    refine a_go (by decide) (v_iadd d_LG_append_22 ?_)
    refine a_go (by decide) (v_i2l d_LG_append_23 ?_)
    refine a_go (by decide) (v_callS d_LG_append_24 rfl (mm_spl 4 rfl) rfl (Nat.le_of_ble_eq_true rfl) ?_)
    refine (i_putNumber rfl ?_)
    refine a_go (by decide) (v_aload_n d_LG_append_27 rfl ?_)
    refine a_go (by decide) (v_callV d_LG_append_28 rfl (mm_spl 1 rfl) rfl (Nat.le_of_ble_eq_true rfl) rfl ?_)
    refine (i_blankLine (mm_J_app hpre) ?_)
    refine a_go (by decide) (v_istore d_LG_append_31 (by decide) ?_)
    refine a_go (by decide) (v_iconst d_LG_append_33 ki_1 ?_)
    refine a_go (by decide) (v_istore d_LG_append_34 (by decide) ?_)
    refine a_go (by decide) (v_iload d_LG_append_36 rfl ?_)
    refine a_go (by decide) (v_iconst d_LG_append_38 ki_m1 ?_)
    refine a_go (by decide) (v_icmp_ne d_LG_append_39 (t := 72) (by decide) (fun c1 => ?_) (fun c1 => ?_))
    · skip
      refine a_go (by decide) (v_iload d_LG_append_72 rfl ?_)
      refine a_go (by decide) (v_if_eq d_LG_append_74 (t := 98) (by decide) (fun c2 => absurd c2 (by decide)) (fun c2 => ?_))
      refine a_go (by decide) (v_aload_n d_LG_append_77 rfl ?_)
      refine a_go (by decide) (v_getR d_LG_append_78 rfl rfl rfl ?_)
      refine a_go (by decide) (v_iload d_LG_append_81 rfl ?_)
      refine a_go (by decide) (v_aload_n d_LG_append_83 rfl ?_)
      refine a_go (by decide) (v_getR d_LG_append_84 rfl rfl rfl ?_)
      refine a_go (by decide) (v_iconst d_LG_append_87 ki_0 ?_)
      refine a_go (by decide) (v_callV d_LG_append_88 rfl (mm_spl 4 rfl) rfl (Nat.le_of_ble_eq_true rfl) rfl ?_)
      refine (i_pline rfl ?_)
      refine a_go (by decide) (v_if_eq d_LG_append_91 (t := 98) (by decide) (fun c3 => ?_) (fun c3 => ?_))
      · skip
        refine a_go (by decide) (v_iconst d_LG_append_98 ki_0 ?_)
        refine a_go (by decide) (v_istore d_LG_append_99 (by decide) ?_)
        refine a_go (by decide) (v_iload d_LG_append_101 rfl ?_)
        refine a_go (by decide) (v_if_eq d_LG_append_103 (t := 116) (by decide) (fun c4 => ?_) (fun c4 => absurd c4 (by decide)))
        refine a_go (by decide) (v_aload_n d_LG_append_116 rfl ?_)
        refine a_go (by decide) (v_callV d_LG_append_117 rfl (mm_spl 1 rfl) rfl (Nat.le_of_ble_eq_true rfl) rfl ?_)
        refine (i_look ?_)
        refine a_go (by decide) (v_iload d_LG_append_120 rfl ?_)
        refine a_go (by decide) (v_zreturn d_LG_append_122 rfl (by decide) ?_)
        exact mm_fiVS hk (mm_ifn c1 (mm_ifp c3 rfl))
      · skip
        refine a_go (by decide) (v_iconst d_LG_append_94 ki_1 ?_)
        refine a_go (by decide) (v_goto d_LG_append_95 (t := 99) (by decide) ?_)
        refine a_go (by decide) (v_istore d_LG_append_99 (by decide) ?_)
        refine a_go (by decide) (v_iload d_LG_append_101 rfl ?_)
        refine a_go (by decide) (v_if_eq d_LG_append_103 (t := 116) (by decide) (fun c5 => absurd c5 (by decide)) (fun c5 => ?_))
        refine a_go (by decide) (v_aload_n d_LG_append_106 rfl ?_)
        refine a_go (by decide) (v_dup d_LG_append_107 rfl ?_)
        refine a_go (by decide) (v_getI d_LG_append_108 rfl rfl rfl ?_)
        refine a_go (by decide) (v_iconst d_LG_append_111 ki_1 ?_)
        refine a_go (by decide) (v_iadd d_LG_append_112 ?_)
        refine a_go (by decide) (v_putI d_LG_append_113 rfl rfl rfl ?_)
        refine a_go (by decide) (v_aload_n d_LG_append_116 rfl ?_)
        refine a_go (by decide) (v_callV d_LG_append_117 rfl (mm_spl 1 rfl) rfl (Nat.le_of_ble_eq_true rfl) rfl ?_)
        refine (i_look ?_)
        refine a_go (by decide) (v_iload d_LG_append_120 rfl ?_)
        refine a_go (by decide) (v_zreturn d_LG_append_122 rfl (by decide) ?_)
        exact mm_fiVS hk (mm_ifn c1 (mm_ifn c3 rfl))
    · skip
      refine a_go (by decide) (v_aload_n d_LG_append_42 rfl ?_)
      refine a_go (by decide) (v_getI d_LG_append_43 rfl rfl rfl ?_)
      refine a_go (by decide) (v_bipush d_LG_append_46 kb_64 ?_)
      refine a_go (by decide) (v_idiv d_LG_append_48 (by decide) ?_)
      refine a_go (by decide) (v_callS d_LG_append_49 rfl (mm_spl 1 rfl) rfl (Nat.le_of_ble_eq_true rfl) ?_)
      refine (i_other ?_)
      refine a_go (by decide) (v_istore d_LG_append_52 (by decide) ?_)
      refine a_go (by decide) (v_iload d_LG_append_54 rfl ?_)
      refine a_go (by decide) (v_bipush d_LG_append_56 kb_64 ?_)
      refine a_go (by decide) (v_imul d_LG_append_58 ?_)
      refine a_go (by decide) (v_istore d_LG_append_59 (by decide) ?_)
      refine a_go (by decide) (v_aload_n d_LG_append_61 rfl ?_)
      refine a_go (by decide) (v_getR d_LG_append_62 rfl rfl rfl ?_)
      refine a_go (by decide) (v_iload d_LG_append_65 rfl ?_)
      refine a_go (by decide) (v_callV d_LG_append_67 rfl (mm_spl 2 rfl) rfl (Nat.le_of_ble_eq_true rfl) rfl ?_)
      refine (i_erase ?_)
      refine a_go (by decide) (v_istore d_LG_append_70 (by decide) ?_)
      refine a_go (by decide) (v_iload d_LG_append_72 rfl ?_)
      refine a_go (by decide) (v_if_eq d_LG_append_74 (t := 98) (by decide) (fun c6 => ?_) (fun c6 => ?_))
      · skip
        refine a_go (by decide) (v_iconst d_LG_append_98 ki_0 ?_)
        refine a_go (by decide) (v_istore d_LG_append_99 (by decide) ?_)
        refine a_go (by decide) (v_iload d_LG_append_101 rfl ?_)
        refine a_go (by decide) (v_if_eq d_LG_append_103 (t := 116) (by decide) (fun c7 => ?_) (fun c7 => absurd c7 (by decide)))
        refine a_go (by decide) (v_aload_n d_LG_append_116 rfl ?_)
        refine a_go (by decide) (v_callV d_LG_append_117 rfl (mm_spl 1 rfl) rfl (Nat.le_of_ble_eq_true rfl) rfl ?_)
        refine (i_look ?_)
        refine a_go (by decide) (v_iload d_LG_append_120 rfl ?_)
        refine a_go (by decide) (v_zreturn d_LG_append_122 rfl (by decide) ?_)
        exact mm_fiVS hk (mm_ifp c1 (mm_ifp c6 rfl))
      · skip
        refine a_go (by decide) (v_aload_n d_LG_append_77 rfl ?_)
        refine a_go (by decide) (v_getR d_LG_append_78 rfl rfl rfl ?_)
        refine a_go (by decide) (v_iload d_LG_append_81 rfl ?_)
        refine a_go (by decide) (v_aload_n d_LG_append_83 rfl ?_)
        refine a_go (by decide) (v_getR d_LG_append_84 rfl rfl rfl ?_)
        refine a_go (by decide) (v_iconst d_LG_append_87 ki_0 ?_)
        refine a_go (by decide) (v_callV d_LG_append_88 rfl (mm_spl 4 rfl) rfl (Nat.le_of_ble_eq_true rfl) rfl ?_)
        refine (i_pline rfl ?_)
        refine a_go (by decide) (v_if_eq d_LG_append_91 (t := 98) (by decide) (fun c8 => ?_) (fun c8 => ?_))
        · skip
          refine a_go (by decide) (v_iconst d_LG_append_98 ki_0 ?_)
          refine a_go (by decide) (v_istore d_LG_append_99 (by decide) ?_)
          refine a_go (by decide) (v_iload d_LG_append_101 rfl ?_)
          refine a_go (by decide) (v_if_eq d_LG_append_103 (t := 116) (by decide) (fun c9 => ?_) (fun c9 => absurd c9 (by decide)))
          refine a_go (by decide) (v_aload_n d_LG_append_116 rfl ?_)
          refine a_go (by decide) (v_callV d_LG_append_117 rfl (mm_spl 1 rfl) rfl (Nat.le_of_ble_eq_true rfl) rfl ?_)
          refine (i_look ?_)
          refine a_go (by decide) (v_iload d_LG_append_120 rfl ?_)
          refine a_go (by decide) (v_zreturn d_LG_append_122 rfl (by decide) ?_)
          exact mm_fiVS hk (mm_ifp c1 (mm_ifn c6 (mm_ifp c8 rfl)))
        · skip
          refine a_go (by decide) (v_iconst d_LG_append_94 ki_1 ?_)
          refine a_go (by decide) (v_goto d_LG_append_95 (t := 99) (by decide) ?_)
          refine a_go (by decide) (v_istore d_LG_append_99 (by decide) ?_)
          refine a_go (by decide) (v_iload d_LG_append_101 rfl ?_)
          refine a_go (by decide) (v_if_eq d_LG_append_103 (t := 116) (by decide) (fun c10 => absurd c10 (by decide)) (fun c10 => ?_))
          refine a_go (by decide) (v_aload_n d_LG_append_106 rfl ?_)
          refine a_go (by decide) (v_dup d_LG_append_107 rfl ?_)
          refine a_go (by decide) (v_getI d_LG_append_108 rfl rfl rfl ?_)
          refine a_go (by decide) (v_iconst d_LG_append_111 ki_1 ?_)
          refine a_go (by decide) (v_iadd d_LG_append_112 ?_)
          refine a_go (by decide) (v_putI d_LG_append_113 rfl rfl rfl ?_)
          refine a_go (by decide) (v_aload_n d_LG_append_116 rfl ?_)
          refine a_go (by decide) (v_callV d_LG_append_117 rfl (mm_spl 1 rfl) rfl (Nat.le_of_ble_eq_true rfl) rfl ?_)
          refine (i_look ?_)
          refine a_go (by decide) (v_iload d_LG_append_120 rfl ?_)
          refine a_go (by decide) (v_zreturn d_LG_append_122 rfl (by decide) ?_)
          exact mm_fiVS hk (mm_ifp c1 (mm_ifn c6 (mm_ifn c8 rfl)))
  · intro as x K _ k pc lv x' h
    cases h
theorem e_append_b (a b c d e : Int32) (x : mm_S) : (e_append a b c d e x).1 = 0 ∨ (e_append a b c d e x).1 = 1 := by
  simp only [e_append]
  repeat' split
  all_goals first | exact Or.inl rfl | exact Or.inr rfl
theorem e_append_J (a b c d e : Int32) (x : mm_S) : mm_J (e_append a b c d e x).2 := by
  simp only [e_append]
  repeat' split
  all_goals exact e_look_J _
-- TwoSlots$Log.appendTrying(II)Z
def e_appTrying (v0 : Int32) (v1 : Int32) (x : mm_S) : Int32 × mm_S :=
  let q1 := e_append (x.1 23) v0 v1 (x.1 26) (x.1 27) x
  (q1.1, q1.2)
def S_appTrying : mm_P := fun as x K => ∃ (v0 : Int32) (v1 : Int32), as = [.ref 3, .int v0, .int v1] ∧ (mm_J x) ∧ K (some (.int (e_appTrying v0 v1 x).1)) (e_appTrying v0 v1 x).2
theorem i_appTrying {v0 : Int32} {v1 : Int32} {x : mm_S} {K : mm_K} (hpre : (mm_J x)) (hk : K (some (.int (e_appTrying v0 v1 x).1)) (e_appTrying v0 v1 x).2) : S_appTrying [.ref 3, .int v0, .int v1] x K := ⟨_, _, rfl, hpre, hk⟩
def G_appTrying : mm_G := (FT_LG, CI_LG, CJ_LG, mm_tb [], mm_tb [(82, 6, 2, S_append)], none)
def rm_appTrying : Room := { frames := 4, cells := 0, slots := 0, locals := 100 }
set_option maxRecDepth 10000 in
theorem c_appTrying (l : Launch) : mm_Con l NW CL TB LC y_LG_appendTrying b_LG_appendTrying 3 (some .boolean) rm_appTrying S_appTrying := by
  refine mm_con G_appTrying [] (fun _ _ _ _ _ _ _ => False) (by decide +kernel) tb_good LC_u nw_nest ?_ rfl ft_LG ci_LG cj_LG ?_ ?_ ?_ ?_
  · rintro as x K ⟨v0, v1, rfl, -⟩
    exact Nat.le_of_ble_eq_true rfl
  · exact mm_tb_e (fun _ h => absurd h List.not_mem_nil)
  · exact mm_tb_e (List.forall_mem_cons.mpr ⟨mm_cvt_i (c_append l) (mm_cb_i rfl rfl (by decide) (by decide) tc_LG_append ti_LG ⟨by decide, by decide, by decide +kernel⟩ (Or.inl tl_LG_82)) rfl tv_LG_append tx_LG_append, fun _ h => absurd h List.not_mem_nil⟩)
  · rintro as x K ⟨v0, v1, rfl, hpre, hk⟩
    refine ⟨400, ?_⟩
    refine v_aload_n d_LG_appendTrying_0 rfl ?_
    refine a_go (by decide) (v_aload_n d_LG_appendTrying_1 rfl ?_)
    refine a_go (by decide) (v_getI d_LG_appendTrying_2 rfl rfl rfl ?_)
    refine a_go (by decide) (v_iload_n d_LG_appendTrying_5 rfl ?_)
    refine a_go (by decide) (v_iload_n d_LG_appendTrying_6 rfl ?_)
    refine a_go (by decide) (v_aload_n d_LG_appendTrying_7 rfl ?_)
    refine a_go (by decide) (v_getI d_LG_appendTrying_8 rfl rfl rfl ?_)
    refine a_go (by decide) (v_aload_n d_LG_appendTrying_11 rfl ?_)
    refine a_go (by decide) (v_getI d_LG_appendTrying_12 rfl rfl rfl ?_)
    refine a_go (by decide) (v_callV d_LG_appendTrying_15 rfl (mm_spl 6 rfl) rfl (Nat.le_of_ble_eq_true rfl) rfl ?_)
    refine (i_append hpre ?_)
    refine a_go (by decide) (v_zreturn d_LG_appendTrying_18 rfl (e_append_b _ _ _ _ _ _) ?_)
    exact mm_fiVS hk rfl
  · intro as x K _ k pc lv x' h
    cases h
theorem J_appTrying {a b : Int32} {x : mm_S} (_ : mm_J x) : mm_J (e_appTrying a b x).2 := e_append_J _ _ _ _ _ _
-- TwoSlots$Log.appendActive(I)Z
def e_appActive (v0 : Int32) (x : mm_S) : Int32 × mm_S :=
  let q1 := e_append v0 (x.1 24) (x.1 25) (x.1 26) (x.1 27) x
  (q1.1, q1.2)
def S_appActive : mm_P := fun as x K => ∃ (v0 : Int32), as = [.ref 3, .int v0] ∧ (mm_J x) ∧ K (some (.int (e_appActive v0 x).1)) (e_appActive v0 x).2
theorem i_appActive {v0 : Int32} {x : mm_S} {K : mm_K} (hpre : (mm_J x)) (hk : K (some (.int (e_appActive v0 x).1)) (e_appActive v0 x).2) : S_appActive [.ref 3, .int v0] x K := ⟨_, rfl, hpre, hk⟩
def G_appActive : mm_G := (FT_LG, CI_LG, CJ_LG, mm_tb [], mm_tb [(82, 6, 2, S_append)], none)
def rm_appActive : Room := { frames := 4, cells := 0, slots := 0, locals := 100 }
set_option maxRecDepth 10000 in
theorem c_appActive (l : Launch) : mm_Con l NW CL TB LC y_LG_appendActive b_LG_appendActive 2 (some .boolean) rm_appActive S_appActive := by
  refine mm_con G_appActive [] (fun _ _ _ _ _ _ _ => False) (by decide +kernel) tb_good LC_u nw_nest ?_ rfl ft_LG ci_LG cj_LG ?_ ?_ ?_ ?_
  · rintro as x K ⟨v0, rfl, -⟩
    exact Nat.le_of_ble_eq_true rfl
  · exact mm_tb_e (fun _ h => absurd h List.not_mem_nil)
  · exact mm_tb_e (List.forall_mem_cons.mpr ⟨mm_cvt_i (c_append l) (mm_cb_i rfl rfl (by decide) (by decide) tc_LG_append ti_LG ⟨by decide, by decide, by decide +kernel⟩ (Or.inl tl_LG_82)) rfl tv_LG_append tx_LG_append, fun _ h => absurd h List.not_mem_nil⟩)
  · rintro as x K ⟨v0, rfl, hpre, hk⟩
    refine ⟨400, ?_⟩
    refine v_aload_n d_LG_appendActive_0 rfl ?_
    refine a_go (by decide) (v_iload_n d_LG_appendActive_1 rfl ?_)
    refine a_go (by decide) (v_aload_n d_LG_appendActive_2 rfl ?_)
    refine a_go (by decide) (v_getI d_LG_appendActive_3 rfl rfl rfl ?_)
    refine a_go (by decide) (v_aload_n d_LG_appendActive_6 rfl ?_)
    refine a_go (by decide) (v_getI d_LG_appendActive_7 rfl rfl rfl ?_)
    refine a_go (by decide) (v_aload_n d_LG_appendActive_10 rfl ?_)
    refine a_go (by decide) (v_getI d_LG_appendActive_11 rfl rfl rfl ?_)
    refine a_go (by decide) (v_aload_n d_LG_appendActive_14 rfl ?_)
    refine a_go (by decide) (v_getI d_LG_appendActive_15 rfl rfl rfl ?_)
    refine a_go (by decide) (v_callV d_LG_appendActive_18 rfl (mm_spl 6 rfl) rfl (Nat.le_of_ble_eq_true rfl) rfl ?_)
    refine (i_append hpre ?_)
    refine a_go (by decide) (v_zreturn d_LG_appendActive_21 rfl (e_append_b _ _ _ _ _ _) ?_)
    exact mm_fiVS hk rfl
  · intro as x K _ k pc lv x' h
    cases h
theorem J_appActive {a : Int32} {x : mm_S} (_ : mm_J x) : mm_J (e_appActive a x).2 := e_append_J _ _ _ _ _ _
-- TwoSlots$Log.appendConfirmed(II)Z
def e_appConfirmed (v0 : Int32) (v1 : Int32) (x : mm_S) : Int32 × mm_S :=
  let q1 := e_append v0 (-1 : Int32) (0 : Int32) (x.1 26) v1 x
  (q1.1, q1.2)
def S_appConfirmed : mm_P := fun as x K => ∃ (v0 : Int32) (v1 : Int32), as = [.ref 3, .int v0, .int v1] ∧ (mm_J x) ∧ K (some (.int (e_appConfirmed v0 v1 x).1)) (e_appConfirmed v0 v1 x).2
theorem i_appConfirmed {v0 : Int32} {v1 : Int32} {x : mm_S} {K : mm_K} (hpre : (mm_J x)) (hk : K (some (.int (e_appConfirmed v0 v1 x).1)) (e_appConfirmed v0 v1 x).2) : S_appConfirmed [.ref 3, .int v0, .int v1] x K := ⟨_, _, rfl, hpre, hk⟩
def G_appConfirmed : mm_G := (FT_LG, CI_LG, CJ_LG, mm_tb [], mm_tb [(82, 6, 2, S_append)], none)
def rm_appConfirmed : Room := { frames := 4, cells := 0, slots := 0, locals := 100 }
set_option maxRecDepth 10000 in
theorem c_appConfirmed (l : Launch) : mm_Con l NW CL TB LC y_LG_appendConfirmed b_LG_appendConfirmed 3 (some .boolean) rm_appConfirmed S_appConfirmed := by
  refine mm_con G_appConfirmed [] (fun _ _ _ _ _ _ _ => False) (by decide +kernel) tb_good LC_u nw_nest ?_ rfl ft_LG ci_LG cj_LG ?_ ?_ ?_ ?_
  · rintro as x K ⟨v0, v1, rfl, -⟩
    exact Nat.le_of_ble_eq_true rfl
  · exact mm_tb_e (fun _ h => absurd h List.not_mem_nil)
  · exact mm_tb_e (List.forall_mem_cons.mpr ⟨mm_cvt_i (c_append l) (mm_cb_i rfl rfl (by decide) (by decide) tc_LG_append ti_LG ⟨by decide, by decide, by decide +kernel⟩ (Or.inl tl_LG_82)) rfl tv_LG_append tx_LG_append, fun _ h => absurd h List.not_mem_nil⟩)
  · rintro as x K ⟨v0, v1, rfl, hpre, hk⟩
    refine ⟨400, ?_⟩
    refine v_aload_n d_LG_appendConfirmed_0 rfl ?_
    refine a_go (by decide) (v_iload_n d_LG_appendConfirmed_1 rfl ?_)
    refine a_go (by decide) (v_iconst d_LG_appendConfirmed_2 ki_m1 ?_)
    refine a_go (by decide) (v_iconst d_LG_appendConfirmed_3 ki_0 ?_)
    refine a_go (by decide) (v_aload_n d_LG_appendConfirmed_4 rfl ?_)
    refine a_go (by decide) (v_getI d_LG_appendConfirmed_5 rfl rfl rfl ?_)
    refine a_go (by decide) (v_iload_n d_LG_appendConfirmed_8 rfl ?_)
    refine a_go (by decide) (v_callV d_LG_appendConfirmed_9 rfl (mm_spl 6 rfl) rfl (Nat.le_of_ble_eq_true rfl) rfl ?_)
    refine (i_append hpre ?_)
    refine a_go (by decide) (v_zreturn d_LG_appendConfirmed_12 rfl (e_append_b _ _ _ _ _ _) ?_)
    exact mm_fiVS hk rfl
  · intro as x K _ k pc lv x' h
    cases h
theorem J_appConfirmed {a b : Int32} {x : mm_S} (_ : mm_J x) : mm_J (e_appConfirmed a b x).2 := e_append_J _ _ _ _ _ _
-- TwoSlots$Log.appendRevoked(I)Z
def e_appRevoked (v0 : Int32) (x : mm_S) : Int32 × mm_S :=
  let q1 := e_append (x.1 23) (x.1 24) (x.1 25) v0 (x.1 27) x
  (q1.1, q1.2)
def S_appRevoked : mm_P := fun as x K => ∃ (v0 : Int32), as = [.ref 3, .int v0] ∧ (mm_J x) ∧ K (some (.int (e_appRevoked v0 x).1)) (e_appRevoked v0 x).2
theorem i_appRevoked {v0 : Int32} {x : mm_S} {K : mm_K} (hpre : (mm_J x)) (hk : K (some (.int (e_appRevoked v0 x).1)) (e_appRevoked v0 x).2) : S_appRevoked [.ref 3, .int v0] x K := ⟨_, rfl, hpre, hk⟩
def G_appRevoked : mm_G := (FT_LG, CI_LG, CJ_LG, mm_tb [], mm_tb [(82, 6, 2, S_append)], none)
def rm_appRevoked : Room := { frames := 4, cells := 0, slots := 0, locals := 100 }
set_option maxRecDepth 10000 in
theorem c_appRevoked (l : Launch) : mm_Con l NW CL TB LC y_LG_appendRevoked b_LG_appendRevoked 2 (some .boolean) rm_appRevoked S_appRevoked := by
  refine mm_con G_appRevoked [] (fun _ _ _ _ _ _ _ => False) (by decide +kernel) tb_good LC_u nw_nest ?_ rfl ft_LG ci_LG cj_LG ?_ ?_ ?_ ?_
  · rintro as x K ⟨v0, rfl, -⟩
    exact Nat.le_of_ble_eq_true rfl
  · exact mm_tb_e (fun _ h => absurd h List.not_mem_nil)
  · exact mm_tb_e (List.forall_mem_cons.mpr ⟨mm_cvt_i (c_append l) (mm_cb_i rfl rfl (by decide) (by decide) tc_LG_append ti_LG ⟨by decide, by decide, by decide +kernel⟩ (Or.inl tl_LG_82)) rfl tv_LG_append tx_LG_append, fun _ h => absurd h List.not_mem_nil⟩)
  · rintro as x K ⟨v0, rfl, hpre, hk⟩
    refine ⟨400, ?_⟩
    refine v_aload_n d_LG_appendRevoked_0 rfl ?_
    refine a_go (by decide) (v_aload_n d_LG_appendRevoked_1 rfl ?_)
    refine a_go (by decide) (v_getI d_LG_appendRevoked_2 rfl rfl rfl ?_)
    refine a_go (by decide) (v_aload_n d_LG_appendRevoked_5 rfl ?_)
    refine a_go (by decide) (v_getI d_LG_appendRevoked_6 rfl rfl rfl ?_)
    refine a_go (by decide) (v_aload_n d_LG_appendRevoked_9 rfl ?_)
    refine a_go (by decide) (v_getI d_LG_appendRevoked_10 rfl rfl rfl ?_)
    refine a_go (by decide) (v_iload_n d_LG_appendRevoked_13 rfl ?_)
    refine a_go (by decide) (v_aload_n d_LG_appendRevoked_14 rfl ?_)
    refine a_go (by decide) (v_getI d_LG_appendRevoked_15 rfl rfl rfl ?_)
    refine a_go (by decide) (v_callV d_LG_appendRevoked_18 rfl (mm_spl 6 rfl) rfl (Nat.le_of_ble_eq_true rfl) rfl ?_)
    refine (i_append hpre ?_)
    refine a_go (by decide) (v_zreturn d_LG_appendRevoked_21 rfl (e_append_b _ _ _ _ _ _) ?_)
    exact mm_fiVS hk rfl
  · intro as x K _ k pc lv x' h
    cases h
theorem J_appRevoked {a : Int32} {x : mm_S} (_ : mm_J x) : mm_J (e_appRevoked a x).2 := e_append_J _ _ _ _ _ _
theorem J_psector {v : Int32} {n r : Nat} {x : mm_S} (h : mm_J x) : mm_J (e_psector v n r x).2 := mm_Jc (e_psector_21 v n r x) h
