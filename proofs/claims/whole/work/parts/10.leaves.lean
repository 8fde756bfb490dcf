-- java/lang/Math.min(II)I
def e_min (v0 : Int32) (v1 : Int32) (x : mm_S) : Int32 :=
  if v1 < v0 then
    v1
  else
    v0
def S_min : mm_P := fun as x K => ∃ (v0 : Int32) (v1 : Int32), as = [.int v0, .int v1] ∧ K (some (.int (e_min v0 v1 x))) x
theorem i_min {v0 : Int32} {v1 : Int32} {x : mm_S} {K : mm_K} (hk : K (some (.int (e_min v0 v1 x))) x) : S_min [.int v0, .int v1] x K := ⟨_, _, rfl, hk⟩
def G_min : mm_G := (FT_JM, CI_JM, CJ_JM, mm_tb [], mm_tb [], none)
def rm_min : Room := { frames := 0, cells := 0, slots := 0, locals := 0 }
set_option maxRecDepth 10000 in
theorem c_min (L : mm_L) (hu : mm_Lu L) (hn : mm_Ln L) (l : Launch) : mm_Con l NW CL TB L y_JM_min b_JM_min 2 (some .int) rm_min S_min := by
  refine mm_con G_min [] (fun _ _ _ _ _ _ _ => False) (by decide +kernel) tb_good hu nw_nest ?_ rfl ft_JM ci_JM cj_JM ?_ ?_ ?_ ?_
  · rintro as x K ⟨v0, v1, rfl, -⟩
    exact Nat.le_of_ble_eq_true rfl
  · exact mm_tb_e (fun _ h => absurd h List.not_mem_nil)
  · exact mm_tb_e (fun _ h => absurd h List.not_mem_nil)
  · rintro as x K ⟨v0, v1, rfl, hk⟩
    refine ⟨400, ?_⟩
    refine v_iload_n d_JM_min_0 rfl ?_
    refine a_go (by decide) (v_iload_n d_JM_min_1 rfl ?_)
    refine a_go (by decide) (v_icmp_gt d_JM_min_2 (t := 9) (by decide) (fun c1 => ?_) (fun c1 => ?_))
    · skip
      refine a_go (by decide) (v_iload_n d_JM_min_9 rfl ?_)
      refine a_go (by decide) (v_ireturn d_JM_min_10 rfl rfl ?_)
      exact mm_fiV hk (mm_ifp c1 rfl)
    · skip
      refine a_go (by decide) (v_iload_n d_JM_min_5 rfl ?_)
      refine a_go (by decide) (v_goto d_JM_min_6 (t := 10) (by decide) ?_)
      refine a_go (by decide) (v_ireturn d_JM_min_10 rfl rfl ?_)
      exact mm_fiV hk (mm_ifn c1 rfl)
  · intro as x K _ k pc lv x' h
    cases h
theorem e_min_le (a b : Int32) (x : mm_S) : e_min a b x ≤ b := by
  unfold e_min
  split
  · exact Int32.le_refl b
  · next h => exact Int32.not_lt.mp h
-- java/lang/Math.max(II)I
def e_max (v0 : Int32) (v1 : Int32) (x : mm_S) : Int32 :=
  if v0 < v1 then
    v1
  else
    v0
def S_max : mm_P := fun as x K => ∃ (v0 : Int32) (v1 : Int32), as = [.int v0, .int v1] ∧ K (some (.int (e_max v0 v1 x))) x
theorem i_max {v0 : Int32} {v1 : Int32} {x : mm_S} {K : mm_K} (hk : K (some (.int (e_max v0 v1 x))) x) : S_max [.int v0, .int v1] x K := ⟨_, _, rfl, hk⟩
def G_max : mm_G := (FT_JM, CI_JM, CJ_JM, mm_tb [], mm_tb [], none)
def rm_max : Room := { frames := 0, cells := 0, slots := 0, locals := 0 }
set_option maxRecDepth 10000 in
theorem c_max (L : mm_L) (hu : mm_Lu L) (hn : mm_Ln L) (l : Launch) : mm_Con l NW CL TB L y_JM_max b_JM_max 2 (some .int) rm_max S_max := by
  refine mm_con G_max [] (fun _ _ _ _ _ _ _ => False) (by decide +kernel) tb_good hu nw_nest ?_ rfl ft_JM ci_JM cj_JM ?_ ?_ ?_ ?_
  · rintro as x K ⟨v0, v1, rfl, -⟩
    exact Nat.le_of_ble_eq_true rfl
  · exact mm_tb_e (fun _ h => absurd h List.not_mem_nil)
  · exact mm_tb_e (fun _ h => absurd h List.not_mem_nil)
  · rintro as x K ⟨v0, v1, rfl, hk⟩
    refine ⟨400, ?_⟩
    refine v_iload_n d_JM_max_0 rfl ?_
    refine a_go (by decide) (v_iload_n d_JM_max_1 rfl ?_)
    refine a_go (by decide) (v_icmp_lt d_JM_max_2 (t := 9) (by decide) (fun c1 => ?_) (fun c1 => ?_))
    · skip
      refine a_go (by decide) (v_iload_n d_JM_max_9 rfl ?_)
      refine a_go (by decide) (v_ireturn d_JM_max_10 rfl rfl ?_)
      exact mm_fiV hk (mm_ifp c1 rfl)
    · skip
      refine a_go (by decide) (v_iload_n d_JM_max_5 rfl ?_)
      refine a_go (by decide) (v_goto d_JM_max_6 (t := 10) (by decide) ?_)
      refine a_go (by decide) (v_ireturn d_JM_max_10 rfl rfl ?_)
      exact mm_fiV hk (mm_ifn c1 rfl)
  · intro as x K _ k pc lv x' h
    cases h
theorem e_max_ge (a : Int32) (x : mm_S) : 0 ≤ e_max a 0 x := by
  unfold e_max
  split
  · exact Int32.le_refl 0
  · next h => exact Int32.not_lt.mp h
-- java/lang/Long.rotateLeft(JI)J
def e_rotl (v0 : Int64) (v1 : Int32) (x : mm_S) : Int64 :=
  (v0 <<< (Int32.toInt64 v1 &&& 63)) ||| ((Int64.toUInt64 v0 >>> (Int64.toUInt64 (Int32.toInt64 (-v1)) &&& Int64.toUInt64 63)).toInt64)
def S_rotl : mm_P := fun as x K => ∃ (v0 : Int64) (v1 : Int32), as = [.long v0, .int v1] ∧ K (some (.long (e_rotl v0 v1 x))) x
theorem i_rotl {v0 : Int64} {v1 : Int32} {x : mm_S} {K : mm_K} (hk : K (some (.long (e_rotl v0 v1 x))) x) : S_rotl [.long v0, .int v1] x K := ⟨_, _, rfl, hk⟩
def G_rotl : mm_G := (FT_JL, CI_JL, CJ_JL, mm_tb [], mm_tb [], none)
def rm_rotl : Room := { frames := 0, cells := 0, slots := 0, locals := 0 }
set_option maxRecDepth 10000 in
theorem c_rotl (L : mm_L) (hu : mm_Lu L) (hn : mm_Ln L) (l : Launch) : mm_Con l NW CL TB L y_JL_rotateLeft b_JL_rotateLeft 3 (some .long) rm_rotl S_rotl := by
  refine mm_con G_rotl [] (fun _ _ _ _ _ _ _ => False) (by decide +kernel) tb_good hu nw_nest ?_ rfl ft_JL ci_JL cj_JL ?_ ?_ ?_ ?_
  · rintro as x K ⟨v0, v1, rfl, -⟩
    exact Nat.le_of_ble_eq_true rfl
  · exact mm_tb_e (fun _ h => absurd h List.not_mem_nil)
  · exact mm_tb_e (fun _ h => absurd h List.not_mem_nil)
  · rintro as x K ⟨v0, v1, rfl, hk⟩
    refine ⟨400, ?_⟩
    refine v_lload_n d_JL_rotateLeft_0 rfl ?_
    refine a_go (by decide) (v_iload_n d_JL_rotateLeft_1 rfl ?_)
    refine a_go (by decide) (v_lshl d_JL_rotateLeft_2 ?_)
    refine a_go (by decide) (v_lload_n d_JL_rotateLeft_3 rfl ?_)
    refine a_go (by decide) (v_iload_n d_JL_rotateLeft_4 rfl ?_)
    refine a_go (by decide) (v_ineg d_JL_rotateLeft_5 ?_)
    refine a_go (by decide) (v_lushr d_JL_rotateLeft_6 ?_)
    refine a_go (by decide) (v_lor d_JL_rotateLeft_7 ?_)
    refine a_go (by decide) (v_lreturn d_JL_rotateLeft_8 rfl ?_)
    exact mm_fiVl hk rfl
  · intro as x K _ k pc lv x' h
    cases h
-- java/lang/Integer.compare(II)I
def e_icompare (v0 : Int32) (v1 : Int32) (x : mm_S) : Int32 :=
  if v1 ≤ v0 then
    if v0 = v1 then
      (0 : Int32)
    else
      (1 : Int32)
  else
    (-1 : Int32)
def S_icompare : mm_P := fun as x K => ∃ (v0 : Int32) (v1 : Int32), as = [.int v0, .int v1] ∧ K (some (.int (e_icompare v0 v1 x))) x
theorem i_icompare {v0 : Int32} {v1 : Int32} {x : mm_S} {K : mm_K} (hk : K (some (.int (e_icompare v0 v1 x))) x) : S_icompare [.int v0, .int v1] x K := ⟨_, _, rfl, hk⟩
def G_icompare : mm_G := (FT_JI, CI_JI, CJ_JI, mm_tb [], mm_tb [], none)
def rm_icompare : Room := { frames := 0, cells := 0, slots := 0, locals := 0 }
set_option maxRecDepth 10000 in
theorem c_icompare (L : mm_L) (hu : mm_Lu L) (hn : mm_Ln L) (l : Launch) : mm_Con l NW CL TB L y_JI_compare b_JI_compare 2 (some .int) rm_icompare S_icompare := by
  refine mm_con G_icompare [] (fun _ _ _ _ _ _ _ => False) (by decide +kernel) tb_good hu nw_nest ?_ rfl ft_JI ci_JI cj_JI ?_ ?_ ?_ ?_
  · rintro as x K ⟨v0, v1, rfl, -⟩
    exact Nat.le_of_ble_eq_true rfl
  · exact mm_tb_e (fun _ h => absurd h List.not_mem_nil)
  · exact mm_tb_e (fun _ h => absurd h List.not_mem_nil)
  · rintro as x K ⟨v0, v1, rfl, hk⟩
    refine ⟨400, ?_⟩
    refine v_iload_n d_JI_compare_0 rfl ?_
    refine a_go (by decide) (v_iload_n d_JI_compare_1 rfl ?_)
    refine a_go (by decide) (v_icmp_ge d_JI_compare_2 (t := 9) (by decide) (fun c1 => ?_) (fun c1 => ?_))
    · skip
      refine a_go (by decide) (v_iload_n d_JI_compare_9 rfl ?_)
      refine a_go (by decide) (v_iload_n d_JI_compare_10 rfl ?_)
      refine a_go (by decide) (v_icmp_ne d_JI_compare_11 (t := 18) (by decide) (fun c2 => ?_) (fun c2 => ?_))
      · skip
        refine a_go (by decide) (v_iconst d_JI_compare_18 ki_1 ?_)
        refine a_go (by decide) (v_ireturn d_JI_compare_19 rfl rfl ?_)
        exact mm_fiV hk (mm_ifp c1 (mm_ifn c2 rfl))
      · skip
        refine a_go (by decide) (v_iconst d_JI_compare_14 ki_0 ?_)
        refine a_go (by decide) (v_goto d_JI_compare_15 (t := 19) (by decide) ?_)
        refine a_go (by decide) (v_ireturn d_JI_compare_19 rfl rfl ?_)
        exact mm_fiV hk (mm_ifp c1 (mm_ifp c2 rfl))
    · skip
      refine a_go (by decide) (v_iconst d_JI_compare_5 ki_m1 ?_)
      refine a_go (by decide) (v_goto d_JI_compare_6 (t := 19) (by decide) ?_)
      refine a_go (by decide) (v_ireturn d_JI_compare_19 rfl rfl ?_)
      exact mm_fiV hk (mm_ifn c1 rfl)
  · intro as x K _ k pc lv x' h
    cases h
-- java/lang/Integer.compareUnsigned(II)I
def e_ucompare (v0 : Int32) (v1 : Int32) (x : mm_S) : Int32 :=
  e_icompare (v0 + (-2147483648 : Int32)) (v1 + (-2147483648 : Int32)) x
def S_ucompare : mm_P := fun as x K => ∃ (v0 : Int32) (v1 : Int32), as = [.int v0, .int v1] ∧ K (some (.int (e_ucompare v0 v1 x))) x
theorem i_ucompare {v0 : Int32} {v1 : Int32} {x : mm_S} {K : mm_K} (hk : K (some (.int (e_ucompare v0 v1 x))) x) : S_ucompare [.int v0, .int v1] x K := ⟨_, _, rfl, hk⟩
def G_ucompare : mm_G := (FT_JI, CI_JI, CJ_JI, mm_tb [(259, 2, S_icompare)], mm_tb [], none)
def rm_ucompare : Room := { frames := 1, cells := 0, slots := 0, locals := 21 }
set_option maxRecDepth 10000 in
theorem c_ucompare (L : mm_L) (hu : mm_Lu L) (hn : mm_Ln L) (l : Launch) : mm_Con l NW CL TB L y_JI_compareUnsigned b_JI_compareUnsigned 2 (some .int) rm_ucompare S_ucompare := by
  refine mm_con G_ucompare [] (fun _ _ _ _ _ _ _ => False) (by decide +kernel) tb_good hu nw_nest ?_ rfl ft_JI ci_JI cj_JI ?_ ?_ ?_ ?_
  · rintro as x K ⟨v0, v1, rfl, -⟩
    exact Nat.le_of_ble_eq_true rfl
  · exact mm_tb_e (List.forall_mem_cons.mpr ⟨mm_cst_i (c_icompare L hu hn l) (mm_cb_i rfl rfl (by decide) (by decide) tc_JI_compare ti_JI ⟨by decide, by decide, by decide +kernel⟩ (Or.inl tl_JI_259)) ts_JI_compare, fun _ h => absurd h List.not_mem_nil⟩)
  · exact mm_tb_e (fun _ h => absurd h List.not_mem_nil)
  · rintro as x K ⟨v0, v1, rfl, hk⟩
    refine ⟨400, ?_⟩
    refine v_iload_n d_JI_compareUnsigned_0 rfl ?_
    refine a_go (by decide) (v_ldc d_JI_compareUnsigned_1 rfl ?_)
    refine a_go (by decide) (v_iadd d_JI_compareUnsigned_3 ?_)
    refine a_go (by decide) (v_iload_n d_JI_compareUnsigned_4 rfl ?_)
    refine a_go (by decide) (v_ldc d_JI_compareUnsigned_5 rfl ?_)
    refine a_go (by decide) (v_iadd d_JI_compareUnsigned_7 ?_)
    refine a_go (by decide) (v_callS d_JI_compareUnsigned_8 rfl (mm_spl 2 rfl) rfl (Nat.le_of_ble_eq_true rfl) ?_)
    refine (i_icompare ?_)
    refine a_go (by decide) (v_ireturn d_JI_compareUnsigned_11 rfl rfl ?_)
    exact mm_fiV hk rfl
  · intro as x K _ k pc lv x' h
    cases h
-- java/util/Arrays.fill([BB)V
def l_fill_5 (k : Nat) (n0 : Nat) (r0 : Nat) (u1 : Int32) (u2 : Int32) (u3 : Int32) (x : mm_S) : mm_S := match k with
  | 0 => x
  | k + 1 =>
    if u3 ≤ u2 then
      x
    else
      let x2 := mm_setA x r0 (upd (x.2.2 r0) (Int32.toNatClampNeg u2) (vp_nar .byte u1))
      l_fill_5 (k) n0 r0 u1 (u2 + (1 : Int32)) u3 x2
def e_fill (n0 : Nat) (r0 : Nat) (v1 : Int32) (x : mm_S) : mm_S :=
  let y1 := Int32.ofNat n0
  l_fill_5 (mm_fu (0 : Int32) y1) n0 r0 v1 (0 : Int32) y1 x
def S_fill (L : mm_L) : mm_P := fun as x K => ∃ (a0 n0 r0 : Nat) (v1 : Int32), as = [.ref a0, .int v1] ∧ mm_ar L a0 = some (0, n0, r0) ∧ K none (e_fill n0 r0 v1 x)
theorem i_fill {L : mm_L} {a0 n0 r0 : Nat} {v1 : Int32} {x : mm_S} {K : mm_K} (ha0 : mm_ar L a0 = some (0, n0, r0)) (hk : K none (e_fill n0 r0 v1 x)) : (S_fill L) [.ref a0, .int v1] x K := ⟨_, _, _, _, rfl, ha0, hk⟩
def G_fill : mm_G := (FT_JA, CI_JA, CJ_JA, mm_tb [], mm_tb [], none)
def rm_fill : Room := { frames := 0, cells := 0, slots := 0, locals := 0 }
abbrev Inv_fill (L : mm_L) : mm_K → List Value → mm_S → Nat → Nat → mm_V → mm_S → Prop := fun K _ _ k pc lv x => pc = 5 ∧ ∃ (a0 n0 r0 : Nat) (u1 : Int32) (u2 : Int32) (u3 : Int32), lv = [(0, .ref a0), (1, .int u1), (2, .int u2), (3, .int u3)] ∧ mm_ar L a0 = some (0, n0, r0) ∧ mm_ms u2 u3 < k ∧ (Int32.ofNat n0 = u3 ∧ n0 < 2 ^ 31) ∧ (0 ≤ u2) ∧ K none (l_fill_5 k n0 r0 u1 u2 u3 x)
set_option maxRecDepth 10000 in
theorem c_fill (L : mm_L) (hu : mm_Lu L) (hn : mm_Ln L) (l : Launch) : mm_Con l NW CL TB L y_JA_fill b_JA_fill 4 (none) rm_fill (S_fill L) := by
  refine mm_con G_fill [5] (Inv_fill L) (by decide +kernel) tb_good hu nw_nest ?_ rfl ft_JA ci_JA cj_JA ?_ ?_ ?_ ?_
  · rintro as x K ⟨a0, n0, r0, v1, rfl, -⟩
    exact Nat.le_of_ble_eq_true rfl
  · exact mm_tb_e (fun _ h => absurd h List.not_mem_nil)
  · exact mm_tb_e (fun _ h => absurd h List.not_mem_nil)
  · rintro as x K ⟨a0, n0, r0, v1, rfl, ha0, hk⟩
    refine ⟨400, ?_⟩
    refine v_iconst d_JA_fill_0 ki_0 ?_
    refine a_go (by decide) (v_istore_n d_JA_fill_1 (by decide) ?_)
    refine a_go (by decide) (v_aload_n d_JA_fill_2 rfl ?_)
    refine a_go (by decide) (v_alen d_JA_fill_3 (hn ha0).2 ha0 (by decide) ?_)
    refine a_go (by decide) (v_istore_n d_JA_fill_4 (by decide) ?_)
    refine a_cut (by decide) ⟨rfl, _, [(0, _), (1, _), (2, _), (3, _)], (mm_all_c rfl (mm_all_c rfl (mm_all_c rfl (mm_all_c rfl (mm_all_n))))), rfl, _, _, _, _, _, _, rfl, ha0, ?_, ?_, ?_, (mm_mvS hk rfl)⟩
    · exact mm_ent _ _
    · exact ⟨rfl, (hn ha0).1⟩
    · decide
  · rintro as x0 K - k pc lv x - ⟨rfl, a0, n0, r0, u1, u2, u3, rfl, ha0, hm, hs0, hs1, hk⟩
    obtain ⟨k, rfl⟩ := mm_pos hm
    refine ⟨400, ?_⟩
    refine v_iload_n d_JA_fill_5 rfl ?_
    refine a_go (by decide) (v_iload_n d_JA_fill_6 rfl ?_)
    refine a_go (by decide) (v_icmp_ge d_JA_fill_7 (t := 20) (by decide) (fun c1 => ?_) (fun c1 => ?_))
    · skip
      refine a_go (by decide) (v_return d_JA_fill_20 rfl ?_)
      exact mm_fiS hk (mm_ifp c1 rfl)
    · skip
      refine a_go (by decide) (v_aload_n d_JA_fill_10 rfl ?_)
      refine a_go (by decide) (v_iload_n d_JA_fill_11 rfl ?_)
      refine a_go (by decide) (v_iload_n d_JA_fill_12 rfl ?_)
      refine a_go (by decide) (v_bastore d_JA_fill_13 ha0 (mm_inb hs1 (by assumption) hs0) ?_)
      refine a_go (by decide) (v_iinc d_JA_fill_14 (by decide) rfl ki_1 ?_)
      refine a_go (by decide) (v_goto d_JA_fill_17 (t := 5) (by decide) ?_)
      refine a_cut (by decide) ⟨rfl, _, [(0, _), (1, _), (2, _), (3, _)], ?_, (mm_all_c rfl (mm_all_c rfl (mm_all_c rfl (mm_all_c rfl (mm_all_n))))), rfl, _, _, _, _, _, _, rfl, ha0, ?_, ?_, ?_, (mm_mvS hk (mm_ifn c1 rfl))⟩
      · exact Nat.lt_succ_self _
      · exact mm_dec c1 hm
      · exact hs0
      · exact mm_nn hs1 c1
theorem l_fill_1 (k : Nat) : ∀ (n : Nat) (r : Nat) (v : Int32) (i : Int32) (m : Int32) (x : mm_S), (l_fill_5 k n r v i m x).1 = x.1 := by
  induction k with
  | zero => intros; rfl
  | succ k ih =>
    intro n r v i m x
    simp only [l_fill_5]
    split
    · rfl
    · rw [ih]; rfl
theorem e_fill_1 (n r : Nat) (v : Int32) (x : mm_S) : (e_fill n r v x).1 = x.1 := by
  simp only [e_fill, l_fill_1]
-- TwoSlots.withoutSign(I)J
def e_wos (v0 : Int32) (x : mm_S) : Int64 :=
  (Int32.toInt64 v0) &&& (4294967295 : Int64)
def S_wos : mm_P := fun as x K => ∃ (v0 : Int32), as = [.int v0] ∧ K (some (.long (e_wos v0 x))) x
theorem i_wos {v0 : Int32} {x : mm_S} {K : mm_K} (hk : K (some (.long (e_wos v0 x))) x) : S_wos [.int v0] x K := ⟨_, rfl, hk⟩
def G_wos : mm_G := (FT_TS, CI_TS, CJ_TS, mm_tb [], mm_tb [], none)
def rm_wos : Room := { frames := 0, cells := 0, slots := 0, locals := 0 }
set_option maxRecDepth 10000 in
theorem c_wos (l : Launch) : mm_Con l NW CL TB LC y_TS_withoutSign b_TS_withoutSign 1 (some .long) rm_wos S_wos := by
  refine mm_con G_wos [] (fun _ _ _ _ _ _ _ => False) (by decide +kernel) tb_good LC_u nw_nest ?_ rfl ft_TS ci_TS cj_TS ?_ ?_ ?_ ?_
  · rintro as x K ⟨v0, rfl, -⟩
    exact Nat.le_of_ble_eq_true rfl
  · exact mm_tb_e (fun _ h => absurd h List.not_mem_nil)
  · exact mm_tb_e (fun _ h => absurd h List.not_mem_nil)
  · rintro as x K ⟨v0, rfl, hk⟩
    refine ⟨400, ?_⟩
    refine v_iload_n d_TS_withoutSign_0 rfl ?_
    refine a_go (by decide) (v_i2l d_TS_withoutSign_1 ?_)
    refine a_go (by decide) (v_ldc2 d_TS_withoutSign_2 rfl ?_)
    refine a_go (by decide) (v_land d_TS_withoutSign_5 ?_)
    refine a_go (by decide) (v_lreturn d_TS_withoutSign_6 rfl ?_)
    exact mm_fiVl hk rfl
  · intro as x K _ k pc lv x' h
    cases h
-- TwoSlots.otherThan(I)I
def e_other (v0 : Int32) (x : mm_S) : Int32 :=
  (1 : Int32) - v0
def S_other : mm_P := fun as x K => ∃ (v0 : Int32), as = [.int v0] ∧ K (some (.int (e_other v0 x))) x
theorem i_other {v0 : Int32} {x : mm_S} {K : mm_K} (hk : K (some (.int (e_other v0 x))) x) : S_other [.int v0] x K := ⟨_, rfl, hk⟩
def G_other : mm_G := (FT_TS, CI_TS, CJ_TS, mm_tb [], mm_tb [], none)
def rm_other : Room := { frames := 0, cells := 0, slots := 0, locals := 0 }
set_option maxRecDepth 10000 in
theorem c_other (l : Launch) : mm_Con l NW CL TB LC y_TS_otherThan b_TS_otherThan 1 (some .int) rm_other S_other := by
  refine mm_con G_other [] (fun _ _ _ _ _ _ _ => False) (by decide +kernel) tb_good LC_u nw_nest ?_ rfl ft_TS ci_TS cj_TS ?_ ?_ ?_ ?_
  · rintro as x K ⟨v0, rfl, -⟩
    exact Nat.le_of_ble_eq_true rfl
  · exact mm_tb_e (fun _ h => absurd h List.not_mem_nil)
  · exact mm_tb_e (fun _ h => absurd h List.not_mem_nil)
  · rintro as x K ⟨v0, rfl, hk⟩
    refine ⟨400, ?_⟩
    refine v_iconst d_TS_otherThan_0 ki_1 ?_
    refine a_go (by decide) (v_iload_n d_TS_otherThan_1 rfl ?_)
    refine a_go (by decide) (v_isub d_TS_otherThan_2 ?_)
    refine a_go (by decide) (v_ireturn d_TS_otherThan_3 rfl rfl ?_)
    exact mm_fiV hk rfl
  · intro as x K _ k pc lv x' h
    cases h
-- TwoSlots.headerSector(I)I
def e_hsec (v0 : Int32) (x : mm_S) : Int32 :=
  (2 : Int32) + (v0 * (31 : Int32))
def S_hsec : mm_P := fun as x K => ∃ (v0 : Int32), as = [.int v0] ∧ K (some (.int (e_hsec v0 x))) x
theorem i_hsec {v0 : Int32} {x : mm_S} {K : mm_K} (hk : K (some (.int (e_hsec v0 x))) x) : S_hsec [.int v0] x K := ⟨_, rfl, hk⟩
def G_hsec : mm_G := (FT_TS, CI_TS, CJ_TS, mm_tb [], mm_tb [], none)
def rm_hsec : Room := { frames := 0, cells := 0, slots := 0, locals := 0 }
set_option maxRecDepth 10000 in
theorem c_hsec (l : Launch) : mm_Con l NW CL TB LC y_TS_headerSector b_TS_headerSector 1 (some .int) rm_hsec S_hsec := by
  refine mm_con G_hsec [] (fun _ _ _ _ _ _ _ => False) (by decide +kernel) tb_good LC_u nw_nest ?_ rfl ft_TS ci_TS cj_TS ?_ ?_ ?_ ?_
  · rintro as x K ⟨v0, rfl, -⟩
    exact Nat.le_of_ble_eq_true rfl
  · exact mm_tb_e (fun _ h => absurd h List.not_mem_nil)
  · exact mm_tb_e (fun _ h => absurd h List.not_mem_nil)
  · rintro as x K ⟨v0, rfl, hk⟩
    refine ⟨400, ?_⟩
    refine v_iconst d_TS_headerSector_0 ki_2 ?_
    refine a_go (by decide) (v_iload_n d_TS_headerSector_1 rfl ?_)
    refine a_go (by decide) (v_bipush d_TS_headerSector_2 kb_31 ?_)
    refine a_go (by decide) (v_imul d_TS_headerSector_4 ?_)
    refine a_go (by decide) (v_iadd d_TS_headerSector_5 ?_)
    refine a_go (by decide) (v_ireturn d_TS_headerSector_6 rfl rfl ?_)
    exact mm_fiV hk rfl
  · intro as x K _ k pc lv x' h
    cases h
-- TwoSlots.bodyStart(I)I
def e_bstart (v0 : Int32) (x : mm_S) : Int32 :=
  ((e_hsec v0 x) + (1 : Int32)) * (64 : Int32)
def S_bstart : mm_P := fun as x K => ∃ (v0 : Int32), as = [.int v0] ∧ K (some (.int (e_bstart v0 x))) x
theorem i_bstart {v0 : Int32} {x : mm_S} {K : mm_K} (hk : K (some (.int (e_bstart v0 x))) x) : S_bstart [.int v0] x K := ⟨_, rfl, hk⟩
def G_bstart : mm_G := (FT_TS, CI_TS, CJ_TS, mm_tb [(110, 1, S_hsec)], mm_tb [], none)
def rm_bstart : Room := { frames := 1, cells := 0, slots := 0, locals := 20 }
set_option maxRecDepth 10000 in
theorem c_bstart (l : Launch) : mm_Con l NW CL TB LC y_TS_bodyStart b_TS_bodyStart 1 (some .int) rm_bstart S_bstart := by
  refine mm_con G_bstart [] (fun _ _ _ _ _ _ _ => False) (by decide +kernel) tb_good LC_u nw_nest ?_ rfl ft_TS ci_TS cj_TS ?_ ?_ ?_ ?_
  · rintro as x K ⟨v0, rfl, -⟩
    exact Nat.le_of_ble_eq_true rfl
  · exact mm_tb_e (List.forall_mem_cons.mpr ⟨mm_cst_i (c_hsec l) (mm_cb_i rfl rfl (by decide) (by decide) tc_TS_headerSector ti_TS ⟨by decide, by decide, by decide +kernel⟩ (Or.inl tl_TS_110)) ts_TS_headerSector, fun _ h => absurd h List.not_mem_nil⟩)
  · exact mm_tb_e (fun _ h => absurd h List.not_mem_nil)
  · rintro as x K ⟨v0, rfl, hk⟩
    refine ⟨400, ?_⟩
    refine v_iload_n d_TS_bodyStart_0 rfl ?_
    refine a_go (by decide) (v_callS d_TS_bodyStart_1 rfl (mm_spl 1 rfl) rfl (Nat.le_of_ble_eq_true rfl) ?_)
    refine (i_hsec ?_)
    refine a_go (by decide) (v_iconst d_TS_bodyStart_4 ki_1 ?_)
    refine a_go (by decide) (v_iadd d_TS_bodyStart_5 ?_)
    refine a_go (by decide) (v_bipush d_TS_bodyStart_6 kb_64 ?_)
    refine a_go (by decide) (v_imul d_TS_bodyStart_8 ?_)
    refine a_go (by decide) (v_ireturn d_TS_bodyStart_9 rfl rfl ?_)
    exact mm_fiV hk rfl
  · intro as x K _ k pc lv x' h
    cases h
-- TwoSlots.isInFlash(II)Z
def e_inflash (v0 : Int32) (v1 : Int32) (x : mm_S) : Int32 :=
  if v0 < (0 : Int32) then
    (0 : Int32)
  else
    if (64 : Int32) ≤ v0 then
      (0 : Int32)
    else
      if v1 < (0 : Int32) then
        (0 : Int32)
      else
        if (64 : Int32) ≤ v1 then
          (0 : Int32)
        else
          (1 : Int32)
def S_inflash : mm_P := fun as x K => ∃ (v0 : Int32) (v1 : Int32), as = [.int v0, .int v1] ∧ K (some (.int (e_inflash v0 v1 x))) x
theorem i_inflash {v0 : Int32} {v1 : Int32} {x : mm_S} {K : mm_K} (hk : K (some (.int (e_inflash v0 v1 x))) x) : S_inflash [.int v0, .int v1] x K := ⟨_, _, rfl, hk⟩
def G_inflash : mm_G := (FT_TS, CI_TS, CJ_TS, mm_tb [], mm_tb [], none)
def rm_inflash : Room := { frames := 0, cells := 0, slots := 0, locals := 0 }
set_option maxRecDepth 10000 in
theorem c_inflash (l : Launch) : mm_Con l NW CL TB LC y_TS_isInFlash b_TS_isInFlash 2 (some .boolean) rm_inflash S_inflash := by
  refine mm_con G_inflash [] (fun _ _ _ _ _ _ _ => False) (by decide +kernel) tb_good LC_u nw_nest ?_ rfl ft_TS ci_TS cj_TS ?_ ?_ ?_ ?_
  · rintro as x K ⟨v0, v1, rfl, -⟩
    exact Nat.le_of_ble_eq_true rfl
  · exact mm_tb_e (fun _ h => absurd h List.not_mem_nil)
  · exact mm_tb_e (fun _ h => absurd h List.not_mem_nil)
  · rintro as x K ⟨v0, v1, rfl, hk⟩
    refine ⟨400, ?_⟩
    refine v_iload_n d_TS_isInFlash_0 rfl ?_
    refine a_go (by decide) (v_if_lt d_TS_isInFlash_1 (t := 24) (by decide) (fun c1 => ?_) (fun c1 => ?_))
    · skip
      refine a_go (by decide) (v_iconst d_TS_isInFlash_24 ki_0 ?_)
      refine a_go (by decide) (v_zreturn d_TS_isInFlash_25 rfl (by decide) ?_)
      exact mm_fiV hk (mm_ifp c1 rfl)
    · skip
      refine a_go (by decide) (v_iload_n d_TS_isInFlash_4 rfl ?_)
      refine a_go (by decide) (v_bipush d_TS_isInFlash_5 kb_64 ?_)
      refine a_go (by decide) (v_icmp_ge d_TS_isInFlash_7 (t := 24) (by decide) (fun c2 => ?_) (fun c2 => ?_))
      · skip
        refine a_go (by decide) (v_iconst d_TS_isInFlash_24 ki_0 ?_)
        refine a_go (by decide) (v_zreturn d_TS_isInFlash_25 rfl (by decide) ?_)
        exact mm_fiV hk (mm_ifn c1 (mm_ifp c2 rfl))
      · skip
        refine a_go (by decide) (v_iload_n d_TS_isInFlash_10 rfl ?_)
        refine a_go (by decide) (v_if_lt d_TS_isInFlash_11 (t := 24) (by decide) (fun c3 => ?_) (fun c3 => ?_))
        · skip
          refine a_go (by decide) (v_iconst d_TS_isInFlash_24 ki_0 ?_)
          refine a_go (by decide) (v_zreturn d_TS_isInFlash_25 rfl (by decide) ?_)
          exact mm_fiV hk (mm_ifn c1 (mm_ifn c2 (mm_ifp c3 rfl)))
        · skip
          refine a_go (by decide) (v_iload_n d_TS_isInFlash_14 rfl ?_)
          refine a_go (by decide) (v_bipush d_TS_isInFlash_15 kb_64 ?_)
          refine a_go (by decide) (v_icmp_ge d_TS_isInFlash_17 (t := 24) (by decide) (fun c4 => ?_) (fun c4 => ?_))
          · skip
            refine a_go (by decide) (v_iconst d_TS_isInFlash_24 ki_0 ?_)
            refine a_go (by decide) (v_zreturn d_TS_isInFlash_25 rfl (by decide) ?_)
            exact mm_fiV hk (mm_ifn c1 (mm_ifn c2 (mm_ifn c3 (mm_ifp c4 rfl))))
          · skip
            refine a_go (by decide) (v_iconst d_TS_isInFlash_20 ki_1 ?_)
            refine a_go (by decide) (v_goto d_TS_isInFlash_21 (t := 25) (by decide) ?_)
            refine a_go (by decide) (v_zreturn d_TS_isInFlash_25 rfl (by decide) ?_)
            exact mm_fiV hk (mm_ifn c1 (mm_ifn c2 (mm_ifn c3 (mm_ifn c4 rfl))))
  · intro as x K _ k pc lv x' h
    cases h
-- TwoSlots.digest(J[BII)J
def l_digest_19 (k : Nat) (n1 : Nat) (r1 : Nat) (u5 : Int64) (u7 : Int32) (u8 : Int32) (x : mm_S) : Int64 := match k with
  | 0 => 0
  | k + 1 =>
    if u7 ≤ u8 then
      u5
    else
      let y3 := (e_rotl (u5 ^^^ (Int32.toInt64 ((x.2.2 r1 (Int32.toNatClampNeg u8)) &&& (255 : Int32)))) (13 : Int32) x) * (-7046029254386353131 : Int64)
      l_digest_19 (k) n1 r1 y3 u7 (u8 + (1 : Int32)) x
def e_digest (v0 : Int64) (n1 : Nat) (r1 : Nat) (v2 : Int32) (v3 : Int32) (x : mm_S) : Int64 :=
  let y1 := e_min v3 (Int32.ofNat n1) x
  let y2 := e_max v2 (0 : Int32) x
  l_digest_19 (mm_fu y2 y1) n1 r1 v0 y1 y2 x
def S_digest : mm_P := fun as x K => ∃ (v0 : Int64) (a1 n1 r1 : Nat) (v2 : Int32) (v3 : Int32), as = [.long v0, .ref a1, .int v2, .int v3] ∧ mm_ar LC a1 = some (0, n1, r1) ∧ K (some (.long (e_digest v0 n1 r1 v2 v3 x))) x
theorem i_digest {v0 : Int64} {a1 n1 r1 : Nat} {v2 : Int32} {v3 : Int32} {x : mm_S} {K : mm_K} (ha1 : mm_ar LC a1 = some (0, n1, r1)) (hk : K (some (.long (e_digest v0 n1 r1 v2 v3 x))) x) : S_digest [.long v0, .ref a1, .int v2, .int v3] x K := ⟨_, _, _, _, _, _, rfl, ha1, hk⟩
def G_digest : mm_G := (FT_TS, CI_TS, CJ_TS, mm_tb [(280, 2, S_min), (283, 2, S_max), (286, 2, S_rotl)], mm_tb [], none)
def rm_digest : Room := { frames := 1, cells := 0, slots := 0, locals := 22 }
abbrev Inv_digest : mm_K → List Value → mm_S → Nat → Nat → mm_V → mm_S → Prop := fun K _ _ k pc lv x => pc = 19 ∧ ∃ (a1 n1 r1 : Nat) (u5 : Int64) (u7 : Int32) (u8 : Int32), lv = [(2, .ref a1), (5, .long u5), (7, .int u7), (8, .int u8)] ∧ mm_ar LC a1 = some (0, n1, r1) ∧ mm_ms u8 u7 < k ∧ (u7 ≤ Int32.ofNat n1 ∧ n1 < 2 ^ 31) ∧ (0 ≤ u8) ∧ K (some (.long (l_digest_19 k n1 r1 u5 u7 u8 x))) x
set_option maxRecDepth 10000 in
theorem c_digest (l : Launch) : mm_Con l NW CL TB LC y_TS_digest b_TS_digest 9 (some .long) rm_digest S_digest := by
  refine mm_con G_digest [19] Inv_digest (by decide +kernel) tb_good LC_u nw_nest ?_ rfl ft_TS ci_TS cj_TS ?_ ?_ ?_ ?_
  · rintro as x K ⟨v0, a1, n1, r1, v2, v3, rfl, -⟩
    exact Nat.le_of_ble_eq_true rfl
  · exact mm_tb_e (List.forall_mem_cons.mpr ⟨mm_cst_i (c_min LC LC_u LC_n l) (mm_cb_i rfl rfl (by decide) (by decide) tc_JM_min ti_JM ⟨by decide, by decide, by decide +kernel⟩ (Or.inl tl_TS_280)) ts_JM_min, List.forall_mem_cons.mpr ⟨mm_cst_i (c_max LC LC_u LC_n l) (mm_cb_i rfl rfl (by decide) (by decide) tc_JM_max ti_JM ⟨by decide, by decide, by decide +kernel⟩ (Or.inl tl_TS_283)) ts_JM_max, List.forall_mem_cons.mpr ⟨mm_cst_i (c_rotl LC LC_u LC_n l) (mm_cb_i rfl rfl (by decide) (by decide) tc_JL_rotateLeft ti_JL ⟨by decide, by decide, by decide +kernel⟩ (Or.inl tl_TS_286)) ts_JL_rotateLeft, fun _ h => absurd h List.not_mem_nil⟩⟩⟩)
  · exact mm_tb_e (fun _ h => absurd h List.not_mem_nil)
  · rintro as x K ⟨v0, a1, n1, r1, v2, v3, rfl, ha1, hk⟩
    refine ⟨400, ?_⟩
    refine v_lload_n d_TS_digest_0 rfl ?_
    refine a_go (by decide) (v_lstore d_TS_digest_1 (by decide) ?_)
    refine a_go (by decide) (v_iload d_TS_digest_3 rfl ?_)
    refine a_go (by decide) (v_aload_n d_TS_digest_5 rfl ?_)
    refine a_go (by decide) (v_alen d_TS_digest_6 (LC_n ha1).2 ha1 (by decide) ?_)
    refine a_go (by decide) (v_callS d_TS_digest_7 rfl (mm_spl 2 rfl) rfl (Nat.le_of_ble_eq_true rfl) ?_)
    refine (i_min ?_)
    refine a_go (by decide) (v_istore d_TS_digest_10 (by decide) ?_)
    refine a_go (by decide) (v_iload_n d_TS_digest_12 rfl ?_)
    refine a_go (by decide) (v_iconst d_TS_digest_13 ki_0 ?_)
    refine a_go (by decide) (v_callS d_TS_digest_14 rfl (mm_spl 2 rfl) rfl (Nat.le_of_ble_eq_true rfl) ?_)
    refine (i_max ?_)
    refine a_go (by decide) (v_istore d_TS_digest_17 (by decide) ?_)
    refine a_cut (by decide) ⟨rfl, _, [(2, _), (5, _), (7, _), (8, _)], (mm_all_c rfl (mm_all_c rfl (mm_all_c rfl (mm_all_c rfl (mm_all_n))))), rfl, _, _, _, _, _, _, rfl, ha1, ?_, ?_, ?_, (mm_mvVl hk rfl)⟩
    · exact mm_ent _ _
    · exact ⟨e_min_le _ _ _, (LC_n ha1).1⟩
    · exact e_max_ge _ _
  · rintro as x0 K - k pc lv x - ⟨rfl, a1, n1, r1, u5, u7, u8, rfl, ha1, hm, hs0, hs1, hk⟩
    obtain ⟨k, rfl⟩ := mm_pos hm
    refine ⟨400, ?_⟩
    refine v_iload d_TS_digest_19 rfl ?_
    refine a_go (by decide) (v_iload d_TS_digest_21 rfl ?_)
    refine a_go (by decide) (v_icmp_ge d_TS_digest_23 (t := 55) (by decide) (fun c1 => ?_) (fun c1 => ?_))
    · skip
      refine a_go (by decide) (v_lload d_TS_digest_55 rfl ?_)
      refine a_go (by decide) (v_lreturn d_TS_digest_57 rfl ?_)
      exact mm_fiVl hk (mm_ifp c1 rfl)
    · skip
      refine a_go (by decide) (v_lload d_TS_digest_26 rfl ?_)
      refine a_go (by decide) (v_aload_n d_TS_digest_28 rfl ?_)
      refine a_go (by decide) (v_iload d_TS_digest_29 rfl ?_)
      refine a_go (by decide) (v_baload d_TS_digest_31 ha1 (mm_inb2 hs1 (by assumption) hs0) ?_)
      refine a_go (by decide) (v_sipush d_TS_digest_32 ks_255 ?_)
      refine a_go (by decide) (v_iand d_TS_digest_35 ?_)
      refine a_go (by decide) (v_i2l d_TS_digest_36 ?_)
      refine a_go (by decide) (v_lxor d_TS_digest_37 ?_)
      refine a_go (by decide) (v_bipush d_TS_digest_38 kb_13 ?_)
      refine a_go (by decide) (v_callS d_TS_digest_40 rfl (mm_spl 2 rfl) rfl (Nat.le_of_ble_eq_true rfl) ?_)
      refine (i_rotl ?_)
      refine a_go (by decide) (v_ldc2 d_TS_digest_43 rfl ?_)
      refine a_go (by decide) (v_lmul d_TS_digest_46 ?_)
      refine a_go (by decide) (v_lstore d_TS_digest_47 (by decide) ?_)
      refine a_go (by decide) (v_iinc d_TS_digest_49 (by decide) rfl ki_1 ?_)
      refine a_go (by decide) (v_goto d_TS_digest_52 (t := 19) (by decide) ?_)
      refine a_cut (by decide) ⟨rfl, _, [(2, _), (5, _), (7, _), (8, _)], ?_, (mm_all_c rfl (mm_all_c rfl (mm_all_c rfl (mm_all_c rfl (mm_all_n))))), rfl, _, _, _, _, _, _, rfl, ha1, ?_, ?_, ?_, (mm_mvVl hk (mm_ifn c1 rfl))⟩
      · exact Nat.lt_succ_self _
      · exact mm_dec c1 hm
      · exact hs0
      · exact mm_nn hs1 c1
-- TwoSlots.byteAt([BI)I
def e_byteAt (n0 : Nat) (r0 : Nat) (v1 : Int32) (x : mm_S) : Int32 :=
  if v1 < (0 : Int32) then
    (255 : Int32)
  else
    if (Int32.ofNat n0) ≤ v1 then
      (255 : Int32)
    else
      (x.2.2 r0 (Int32.toNatClampNeg v1)) &&& (255 : Int32)
def S_byteAt : mm_P := fun as x K => ∃ (a0 n0 r0 : Nat) (v1 : Int32), as = [.ref a0, .int v1] ∧ mm_ar LC a0 = some (0, n0, r0) ∧ K (some (.int (e_byteAt n0 r0 v1 x))) x
theorem i_byteAt {a0 n0 r0 : Nat} {v1 : Int32} {x : mm_S} {K : mm_K} (ha0 : mm_ar LC a0 = some (0, n0, r0)) (hk : K (some (.int (e_byteAt n0 r0 v1 x))) x) : S_byteAt [.ref a0, .int v1] x K := ⟨_, _, _, _, rfl, ha0, hk⟩
def G_byteAt : mm_G := (FT_TS, CI_TS, CJ_TS, mm_tb [], mm_tb [], none)
def rm_byteAt : Room := { frames := 0, cells := 0, slots := 0, locals := 0 }
set_option maxRecDepth 10000 in
theorem c_byteAt (l : Launch) : mm_Con l NW CL TB LC y_TS_byteAt b_TS_byteAt 2 (some .int) rm_byteAt S_byteAt := by
  refine mm_con G_byteAt [] (fun _ _ _ _ _ _ _ => False) (by decide +kernel) tb_good LC_u nw_nest ?_ rfl ft_TS ci_TS cj_TS ?_ ?_ ?_ ?_
  · rintro as x K ⟨a0, n0, r0, v1, rfl, -⟩
    exact Nat.le_of_ble_eq_true rfl
  · exact mm_tb_e (fun _ h => absurd h List.not_mem_nil)
  · exact mm_tb_e (fun _ h => absurd h List.not_mem_nil)
  · rintro as x K ⟨a0, n0, r0, v1, rfl, ha0, hk⟩
    refine ⟨400, ?_⟩
    refine v_iload_n d_TS_byteAt_0 rfl ?_
    refine a_go (by decide) (v_if_lt d_TS_byteAt_1 (t := 20) (by decide) (fun c1 => ?_) (fun c1 => ?_))
    · skip
      refine a_go (by decide) (v_sipush d_TS_byteAt_20 ks_255 ?_)
      refine a_go (by decide) (v_ireturn d_TS_byteAt_23 rfl rfl ?_)
      exact mm_fiV hk (mm_ifp c1 rfl)
    · skip
      refine a_go (by decide) (v_iload_n d_TS_byteAt_4 rfl ?_)
      refine a_go (by decide) (v_aload_n d_TS_byteAt_5 rfl ?_)
      refine a_go (by decide) (v_alen d_TS_byteAt_6 (LC_n ha0).2 ha0 (by decide) ?_)
      refine a_go (by decide) (v_icmp_ge d_TS_byteAt_7 (t := 20) (by decide) (fun c2 => ?_) (fun c2 => ?_))
      · skip
        refine a_go (by decide) (v_sipush d_TS_byteAt_20 ks_255 ?_)
        refine a_go (by decide) (v_ireturn d_TS_byteAt_23 rfl rfl ?_)
        exact mm_fiV hk (mm_ifn c1 (mm_ifp c2 rfl))
      · skip
        refine a_go (by decide) (v_aload_n d_TS_byteAt_10 rfl ?_)
        refine a_go (by decide) (v_iload_n d_TS_byteAt_11 rfl ?_)
        refine a_go (by decide) (v_baload d_TS_byteAt_12 ha0 (mm_in3 (by assumption) (by assumption) ((LC_n ha0).1)) ?_)
        refine a_go (by decide) (v_sipush d_TS_byteAt_13 ks_255 ?_)
        refine a_go (by decide) (v_iand d_TS_byteAt_16 ?_)
        refine a_go (by decide) (v_goto d_TS_byteAt_17 (t := 23) (by decide) ?_)
        refine a_go (by decide) (v_ireturn d_TS_byteAt_23 rfl rfl ?_)
        exact mm_fiV hk (mm_ifn c1 (mm_ifn c2 rfl))
  · intro as x K _ k pc lv x' h
    cases h
-- TwoSlots.putByte([BII)V
def e_putByte (n0 : Nat) (r0 : Nat) (v1 : Int32) (v2 : Int32) (x : mm_S) : mm_S :=
  if v1 < (0 : Int32) then
    x
  else
    if (Int32.ofNat n0) ≤ v1 then
      x
    else
      let x1 := mm_setA x r0 (upd (x.2.2 r0) (Int32.toNatClampNeg v1) (vp_nar .byte (Int8.toInt32 (Int32.toInt8 v2))))
      x1
def S_putByte : mm_P := fun as x K => ∃ (a0 n0 r0 : Nat) (v1 : Int32) (v2 : Int32), as = [.ref a0, .int v1, .int v2] ∧ mm_ar LC a0 = some (0, n0, r0) ∧ K none (e_putByte n0 r0 v1 v2 x)
theorem i_putByte {a0 n0 r0 : Nat} {v1 : Int32} {v2 : Int32} {x : mm_S} {K : mm_K} (ha0 : mm_ar LC a0 = some (0, n0, r0)) (hk : K none (e_putByte n0 r0 v1 v2 x)) : S_putByte [.ref a0, .int v1, .int v2] x K := ⟨_, _, _, _, _, rfl, ha0, hk⟩
def G_putByte : mm_G := (FT_TS, CI_TS, CJ_TS, mm_tb [], mm_tb [], none)
def rm_putByte : Room := { frames := 0, cells := 0, slots := 0, locals := 0 }
set_option maxRecDepth 10000 in
theorem c_putByte (l : Launch) : mm_Con l NW CL TB LC y_TS_putByte b_TS_putByte 3 (none) rm_putByte S_putByte := by
  refine mm_con G_putByte [] (fun _ _ _ _ _ _ _ => False) (by decide +kernel) tb_good LC_u nw_nest ?_ rfl ft_TS ci_TS cj_TS ?_ ?_ ?_ ?_
  · rintro as x K ⟨a0, n0, r0, v1, v2, rfl, -⟩
    exact Nat.le_of_ble_eq_true rfl
  · exact mm_tb_e (fun _ h => absurd h List.not_mem_nil)
  · exact mm_tb_e (fun _ h => absurd h List.not_mem_nil)
  · rintro as x K ⟨a0, n0, r0, v1, v2, rfl, ha0, hk⟩
    refine ⟨400, ?_⟩
    refine v_iload_n d_TS_putByte_0 rfl ?_
    refine a_go (by decide) (v_if_lt d_TS_putByte_1 (t := 15) (by decide) (fun c1 => ?_) (fun c1 => ?_))
    · skip
      refine a_go (by decide) (v_return d_TS_putByte_15 rfl ?_)
      exact mm_fiS hk (mm_ifp c1 rfl)
    · skip
      refine a_go (by decide) (v_iload_n d_TS_putByte_4 rfl ?_)
      refine a_go (by decide) (v_aload_n d_TS_putByte_5 rfl ?_)
      refine a_go (by decide) (v_alen d_TS_putByte_6 (LC_n ha0).2 ha0 (by decide) ?_)
      refine a_go (by decide) (v_icmp_ge d_TS_putByte_7 (t := 15) (by decide) (fun c2 => ?_) (fun c2 => ?_))
      · skip
        refine a_go (by decide) (v_return d_TS_putByte_15 rfl ?_)
        exact mm_fiS hk (mm_ifn c1 (mm_ifp c2 rfl))
      · skip
        refine a_go (by decide) (v_aload_n d_TS_putByte_10 rfl ?_)
        refine a_go (by decide) (v_iload_n d_TS_putByte_11 rfl ?_)
        refine a_go (by decide) (v_iload_n d_TS_putByte_12 rfl ?_)
        refine a_go (by decide) (v_i2b d_TS_putByte_13 ?_)
        refine a_go (by decide) (v_bastore d_TS_putByte_14 ha0 (mm_in3 (by assumption) (by assumption) ((LC_n ha0).1)) ?_)
        refine a_go (by decide) (v_return d_TS_putByte_15 rfl ?_)
        exact mm_fiS hk (mm_ifn c1 (mm_ifn c2 rfl))
  · intro as x K _ k pc lv x' h
    cases h
theorem e_putByte_1 (n r : Nat) (i v : Int32) (x : mm_S) : (e_putByte n r i v x).1 = x.1 := by
  unfold e_putByte
  split
  · rfl
  · split <;> rfl
-- TwoSlots.numberAt([BII)J
def l_numberAt_19 (k : Nat) (n0 : Nat) (r0 : Nat) (u1 : Int32) (u2 : Int32) (u3 : Int64) (u5 : Int32) (x : mm_S) : Int64 := match k with
  | 0 => 0
  | k + 1 =>
    if u2 ≤ u5 then
      u3
    else
      let y2 := (u3 <<< (Int32.toInt64 (8 : Int32) &&& 63)) ||| (Int32.toInt64 ((x.2.2 r0 (Int32.toNatClampNeg (u1 + u5))) &&& (255 : Int32)))
      l_numberAt_19 (k) n0 r0 u1 u2 y2 (u5 + (1 : Int32)) x
def e_numberAt (n0 : Nat) (r0 : Nat) (v1 : Int32) (v2 : Int32) (x : mm_S) : Int64 :=
  if v1 < (0 : Int32) then
    (0 : Int64)
  else
    if v1 ≤ ((Int32.ofNat n0) - v2) then
      let y1 := (0 : Int64)
      l_numberAt_19 (mm_fu (0 : Int32) v2) n0 r0 v1 v2 y1 (0 : Int32) x
    else
      (0 : Int64)
def S_numberAt : mm_P := fun as x K => ∃ (a0 n0 r0 : Nat) (v1 : Int32) (v2 : Int32), as = [.ref a0, .int v1, .int v2] ∧ mm_ar LC a0 = some (0, n0, r0) ∧ (0 ≤ v2 ∧ v2 ≤ 8) ∧ K (some (.long (e_numberAt n0 r0 v1 v2 x))) x
theorem i_numberAt {a0 n0 r0 : Nat} {v1 : Int32} {v2 : Int32} {x : mm_S} {K : mm_K} (ha0 : mm_ar LC a0 = some (0, n0, r0)) (hpre : (0 ≤ v2 ∧ v2 ≤ 8)) (hk : K (some (.long (e_numberAt n0 r0 v1 v2 x))) x) : S_numberAt [.ref a0, .int v1, .int v2] x K := ⟨_, _, _, _, _, rfl, ha0, hpre, hk⟩
def G_numberAt : mm_G := (FT_TS, CI_TS, CJ_TS, mm_tb [], mm_tb [], none)
def rm_numberAt : Room := { frames := 0, cells := 0, slots := 0, locals := 0 }
abbrev Inv_numberAt : mm_K → List Value → mm_S → Nat → Nat → mm_V → mm_S → Prop := fun K _ _ k pc lv x => pc = 19 ∧ ∃ (a0 n0 r0 : Nat) (u1 : Int32) (u2 : Int32) (u3 : Int64) (u5 : Int32), lv = [(0, .ref a0), (1, .int u1), (2, .int u2), (3, .long u3), (5, .int u5)] ∧ mm_ar LC a0 = some (0, n0, r0) ∧ mm_ms u5 u2 < k ∧ (0 ≤ u5) ∧ (¬ u1 < 0 ∧ u1 ≤ Int32.ofNat n0 - u2 ∧ 0 ≤ u2 ∧ u2 ≤ 8 ∧ n0 < 2 ^ 31) ∧ K (some (.long (l_numberAt_19 k n0 r0 u1 u2 u3 u5 x))) x
set_option maxRecDepth 10000 in
theorem c_numberAt (l : Launch) : mm_Con l NW CL TB LC y_TS_numberAt b_TS_numberAt 6 (some .long) rm_numberAt S_numberAt := by
  refine mm_con G_numberAt [19] Inv_numberAt (by decide +kernel) tb_good LC_u nw_nest ?_ rfl ft_TS ci_TS cj_TS ?_ ?_ ?_ ?_
  · rintro as x K ⟨a0, n0, r0, v1, v2, rfl, -⟩
    exact Nat.le_of_ble_eq_true rfl
  · exact mm_tb_e (fun _ h => absurd h List.not_mem_nil)
  · exact mm_tb_e (fun _ h => absurd h List.not_mem_nil)
  · rintro as x K ⟨a0, n0, r0, v1, v2, rfl, ha0, hpre, hk⟩
    refine ⟨400, ?_⟩
    refine v_iload_n d_TS_numberAt_0 rfl ?_
    refine a_go (by decide) (v_if_lt d_TS_numberAt_1 (t := 12) (by decide) (fun c1 => ?_) (fun c1 => ?_))
    · skip
      refine a_go (by decide) (v_lconst d_TS_numberAt_12 kl_0 ?_)
      refine a_go (by decide) (v_lreturn d_TS_numberAt_13 rfl ?_)
      exact mm_fiVl hk (mm_ifp c1 rfl)
    · skip
      refine a_go (by decide) (v_iload_n d_TS_numberAt_4 rfl ?_)
      refine a_go (by decide) (v_aload_n d_TS_numberAt_5 rfl ?_)
      refine a_go (by decide) (v_alen d_TS_numberAt_6 (LC_n ha0).2 ha0 (by decide) ?_)
      refine a_go (by decide) (v_iload_n d_TS_numberAt_7 rfl ?_)
      refine a_go (by decide) (v_isub d_TS_numberAt_8 ?_)
      refine a_go (by decide) (v_icmp_le d_TS_numberAt_9 (t := 14) (by decide) (fun c2 => ?_) (fun c2 => ?_))
      · skip
        refine a_go (by decide) (v_lconst d_TS_numberAt_14 kl_0 ?_)
        refine a_go (by decide) (v_lstore_n d_TS_numberAt_15 (by decide) ?_)
        refine a_go (by decide) (v_iconst d_TS_numberAt_16 ki_0 ?_)
        refine a_go (by decide) (v_istore d_TS_numberAt_17 (by decide) ?_)
        refine a_cut (by decide) ⟨rfl, _, [(0, _), (1, _), (2, _), (3, _), (5, _)], (mm_all_c rfl (mm_all_c rfl (mm_all_c rfl (mm_all_c rfl (mm_all_c rfl (mm_all_n)))))), rfl, _, _, _, _, _, _, _, rfl, ha0, ?_, ?_, ?_, (mm_mvVl hk (mm_ifn c1 (mm_ifp c2 rfl)))⟩
        · exact mm_ent _ _
        · decide
        · exact ⟨by assumption, by assumption, hpre.1, hpre.2, (LC_n ha0).1⟩
      · skip
        refine a_go (by decide) (v_lconst d_TS_numberAt_12 kl_0 ?_)
        refine a_go (by decide) (v_lreturn d_TS_numberAt_13 rfl ?_)
        exact mm_fiVl hk (mm_ifn c1 (mm_ifn c2 rfl))
  · rintro as x0 K - k pc lv x - ⟨rfl, a0, n0, r0, u1, u2, u3, u5, rfl, ha0, hm, hs0, hs1, hk⟩
    obtain ⟨k, rfl⟩ := mm_pos hm
    refine ⟨400, ?_⟩
    refine v_iload d_TS_numberAt_19 rfl ?_
    refine a_go (by decide) (v_iload_n d_TS_numberAt_21 rfl ?_)
    refine a_go (by decide) (v_icmp_ge d_TS_numberAt_22 (t := 48) (by decide) (fun c3 => ?_) (fun c3 => ?_))
    · skip
      refine a_go (by decide) (v_lload_n d_TS_numberAt_48 rfl ?_)
      refine a_go (by decide) (v_lreturn d_TS_numberAt_49 rfl ?_)
      exact mm_fiVl hk (mm_ifp c3 rfl)
    · skip
      refine a_go (by decide) (v_lload_n d_TS_numberAt_25 rfl ?_)
      refine a_go (by decide) (v_bipush d_TS_numberAt_26 kb_8 ?_)
      refine a_go (by decide) (v_lshl d_TS_numberAt_28 ?_)
      refine a_go (by decide) (v_aload_n d_TS_numberAt_29 rfl ?_)
      refine a_go (by decide) (v_iload_n d_TS_numberAt_30 rfl ?_)
      refine a_go (by decide) (v_iload d_TS_numberAt_31 rfl ?_)
      refine a_go (by decide) (v_iadd d_TS_numberAt_33 ?_)
      refine a_go (by decide) (v_baload d_TS_numberAt_34 ha0 (mm_in4 hs0 (by assumption) hs1) ?_)
      refine a_go (by decide) (v_sipush d_TS_numberAt_35 ks_255 ?_)
      refine a_go (by decide) (v_iand d_TS_numberAt_38 ?_)
      refine a_go (by decide) (v_i2l d_TS_numberAt_39 ?_)
      refine a_go (by decide) (v_lor d_TS_numberAt_40 ?_)
      refine a_go (by decide) (v_lstore_n d_TS_numberAt_41 (by decide) ?_)
      refine a_go (by decide) (v_iinc d_TS_numberAt_42 (by decide) rfl ki_1 ?_)
      refine a_go (by decide) (v_goto d_TS_numberAt_45 (t := 19) (by decide) ?_)
      refine a_cut (by decide) ⟨rfl, _, [(0, _), (1, _), (2, _), (3, _), (5, _)], ?_, (mm_all_c rfl (mm_all_c rfl (mm_all_c rfl (mm_all_c rfl (mm_all_c rfl (mm_all_n)))))), rfl, _, _, _, _, _, _, _, rfl, ha0, ?_, ?_, ?_, (mm_mvVl hk (mm_ifn c3 rfl))⟩
      · exact Nat.lt_succ_self _
      · exact mm_dec c3 hm
      · exact mm_nn hs0 c3
      · exact hs1
-- TwoSlots.putNumber([BIIJ)V
def l_putNumber_3 (k : Nat) (n0 : Nat) (r0 : Nat) (u1 : Int32) (u2 : Int32) (u3 : Int64) (u5 : Int32) (x : mm_S) : mm_S := match k with
  | 0 => x
  | k + 1 =>
    if u2 ≤ u5 then
      x
    else
      let x1 := e_putByte n0 r0 (u1 + u5) (Int64.toInt32 (u3 >>> (Int32.toInt64 ((8 : Int32) * ((u2 - (1 : Int32)) - u5)) &&& 63))) x
      l_putNumber_3 (k) n0 r0 u1 u2 u3 (u5 + (1 : Int32)) x1
def e_putNumber (n0 : Nat) (r0 : Nat) (v1 : Int32) (v2 : Int32) (v3 : Int64) (x : mm_S) : mm_S :=
  l_putNumber_3 (mm_fu (0 : Int32) v2) n0 r0 v1 v2 v3 (0 : Int32) x
def S_putNumber : mm_P := fun as x K => ∃ (a0 n0 r0 : Nat) (v1 : Int32) (v2 : Int32) (v3 : Int64), as = [.ref a0, .int v1, .int v2, .long v3] ∧ mm_ar LC a0 = some (0, n0, r0) ∧ K none (e_putNumber n0 r0 v1 v2 v3 x)
theorem i_putNumber {a0 n0 r0 : Nat} {v1 : Int32} {v2 : Int32} {v3 : Int64} {x : mm_S} {K : mm_K} (ha0 : mm_ar LC a0 = some (0, n0, r0)) (hk : K none (e_putNumber n0 r0 v1 v2 v3 x)) : S_putNumber [.ref a0, .int v1, .int v2, .long v3] x K := ⟨_, _, _, _, _, _, rfl, ha0, hk⟩
def G_putNumber : mm_G := (FT_TS, CI_TS, CJ_TS, mm_tb [(91, 3, S_putByte)], mm_tb [], none)
def rm_putNumber : Room := { frames := 1, cells := 0, slots := 0, locals := 22 }
abbrev Inv_putNumber : mm_K → List Value → mm_S → Nat → Nat → mm_V → mm_S → Prop := fun K _ _ k pc lv x => pc = 3 ∧ ∃ (a0 n0 r0 : Nat) (u1 : Int32) (u2 : Int32) (u3 : Int64) (u5 : Int32), lv = [(0, .ref a0), (1, .int u1), (2, .int u2), (3, .long u3), (5, .int u5)] ∧ mm_ar LC a0 = some (0, n0, r0) ∧ mm_ms u5 u2 < k ∧ K none (l_putNumber_3 k n0 r0 u1 u2 u3 u5 x)
set_option maxRecDepth 10000 in
theorem c_putNumber (l : Launch) : mm_Con l NW CL TB LC y_TS_putNumber b_TS_putNumber 6 (none) rm_putNumber S_putNumber := by
  refine mm_con G_putNumber [3] Inv_putNumber (by decide +kernel) tb_good LC_u nw_nest ?_ rfl ft_TS ci_TS cj_TS ?_ ?_ ?_ ?_
  · rintro as x K ⟨a0, n0, r0, v1, v2, v3, rfl, -⟩
    exact Nat.le_of_ble_eq_true rfl
  · exact mm_tb_e (List.forall_mem_cons.mpr ⟨mm_cst_i (c_putByte l) (mm_cb_i rfl rfl (by decide) (by decide) tc_TS_putByte ti_TS ⟨by decide, by decide, by decide +kernel⟩ (Or.inl tl_TS_91)) ts_TS_putByte, fun _ h => absurd h List.not_mem_nil⟩)
  · exact mm_tb_e (fun _ h => absurd h List.not_mem_nil)
  · rintro as x K ⟨a0, n0, r0, v1, v2, v3, rfl, ha0, hk⟩
    refine ⟨400, ?_⟩
    refine v_iconst d_TS_putNumber_0 ki_0 ?_
    refine a_go (by decide) (v_istore d_TS_putNumber_1 (by decide) ?_)
    refine a_cut (by decide) ⟨rfl, _, [(0, _), (1, _), (2, _), (3, _), (5, _)], (mm_all_c rfl (mm_all_c rfl (mm_all_c rfl (mm_all_c rfl (mm_all_c rfl (mm_all_n)))))), rfl, _, _, _, _, _, _, _, rfl, ha0, ?_, (mm_mvS hk rfl)⟩
    · exact mm_ent _ _
  · rintro as x0 K - k pc lv x - ⟨rfl, a0, n0, r0, u1, u2, u3, u5, rfl, ha0, hm, hk⟩
    obtain ⟨k, rfl⟩ := mm_pos hm
    refine ⟨400, ?_⟩
    refine v_iload d_TS_putNumber_3 rfl ?_
    refine a_go (by decide) (v_iload_n d_TS_putNumber_5 rfl ?_)
    refine a_go (by decide) (v_icmp_ge d_TS_putNumber_6 (t := 35) (by decide) (fun c1 => ?_) (fun c1 => ?_))
    · skip
      refine a_go (by decide) (v_return d_TS_putNumber_35 rfl ?_)
      exact mm_fiS hk (mm_ifp c1 rfl)
    · skip
      refine a_go (by decide) (v_aload_n d_TS_putNumber_9 rfl ?_)
      refine a_go (by decide) (v_iload_n d_TS_putNumber_10 rfl ?_)
      refine a_go (by decide) (v_iload d_TS_putNumber_11 rfl ?_)
      refine a_go (by decide) (v_iadd d_TS_putNumber_13 ?_)
      refine a_go (by decide) (v_lload_n d_TS_putNumber_14 rfl ?_)
      refine a_go (by decide) (v_bipush d_TS_putNumber_15 kb_8 ?_)
      refine a_go (by decide) (v_iload_n d_TS_putNumber_17 rfl ?_)
      refine a_go (by decide) (v_iconst d_TS_putNumber_18 ki_1 ?_)
      refine a_go (by decide) (v_isub d_TS_putNumber_19 ?_)
      refine a_go (by decide) (v_iload d_TS_putNumber_20 rfl ?_)
      refine a_go (by decide) (v_isub d_TS_putNumber_22 ?_)
      refine a_go (by decide) (v_imul d_TS_putNumber_23 ?_)
      refine a_go (by decide) (v_lshr d_TS_putNumber_24 ?_)
      refine a_go (by decide) (v_l2i d_TS_putNumber_25 ?_)
      refine a_go (by decide) (v_callS d_TS_putNumber_26 rfl (mm_spl 3 rfl) rfl (Nat.le_of_ble_eq_true rfl) ?_)
      refine (i_putByte ha0 ?_)
      refine a_go (by decide) (v_iinc d_TS_putNumber_29 (by decide) rfl ki_1 ?_)
      refine a_go (by decide) (v_goto d_TS_putNumber_32 (t := 3) (by decide) ?_)
      refine a_cut (by decide) ⟨rfl, _, [(0, _), (1, _), (2, _), (3, _), (5, _)], ?_, (mm_all_c rfl (mm_all_c rfl (mm_all_c rfl (mm_all_c rfl (mm_all_c rfl (mm_all_n)))))), rfl, _, _, _, _, _, _, _, rfl, ha0, ?_, (mm_mvS hk (mm_ifn c1 rfl))⟩
      · exact Nat.lt_succ_self _
      · exact mm_dec c1 hm
theorem l_putNumber_1 (k : Nat) : ∀ (n : Nat) (r : Nat) (a : Int32) (b : Int32) (v : Int64) (i : Int32) (x : mm_S), (l_putNumber_3 k n r a b v i x).1 = x.1 := by
  induction k with
  | zero => intros; rfl
  | succ k ih =>
    intro n r a b v i x
    simp only [l_putNumber_3]
    split
    · rfl
    · rw [ih, e_putByte_1]
theorem e_putNumber_1 (n r : Nat) (a b : Int32) (v : Int64) (x : mm_S) : (e_putNumber n r a b v x).1 = x.1 := by
  simp only [e_putNumber, l_putNumber_1]
-- TwoSlots.copySector([BI[BI)V
def l_copySector_3 (k : Nat) (n0 : Nat) (r0 : Nat) (n2 : Nat) (r2 : Nat) (u1 : Int32) (u3 : Int32) (u4 : Int32) (x : mm_S) : mm_S := match k with
  | 0 => x
  | k + 1 =>
    if (64 : Int32) ≤ u4 then
      x
    else
      let x1 := e_putByte n2 r2 (u3 + u4) (e_byteAt n0 r0 (u1 + u4) x) x
      l_copySector_3 (k) n0 r0 n2 r2 u1 u3 (u4 + (1 : Int32)) x1
def e_copySector (n0 : Nat) (r0 : Nat) (v1 : Int32) (n2 : Nat) (r2 : Nat) (v3 : Int32) (x : mm_S) : mm_S :=
  l_copySector_3 (mm_fu (0 : Int32) 64) n0 r0 n2 r2 v1 v3 (0 : Int32) x
def S_copySector : mm_P := fun as x K => ∃ (a0 n0 r0 : Nat) (v1 : Int32) (a2 n2 r2 : Nat) (v3 : Int32), as = [.ref a0, .int v1, .ref a2, .int v3] ∧ mm_ar LC a0 = some (0, n0, r0) ∧ mm_ar LC a2 = some (0, n2, r2) ∧ K none (e_copySector n0 r0 v1 n2 r2 v3 x)
theorem i_copySector {a0 n0 r0 : Nat} {v1 : Int32} {a2 n2 r2 : Nat} {v3 : Int32} {x : mm_S} {K : mm_K} (ha0 : mm_ar LC a0 = some (0, n0, r0)) (ha2 : mm_ar LC a2 = some (0, n2, r2)) (hk : K none (e_copySector n0 r0 v1 n2 r2 v3 x)) : S_copySector [.ref a0, .int v1, .ref a2, .int v3] x K := ⟨_, _, _, _, _, _, _, _, rfl, ha0, ha2, hk⟩
def G_copySector : mm_G := (FT_TS, CI_TS, CJ_TS, mm_tb [(139, 2, S_byteAt), (91, 3, S_putByte)], mm_tb [], none)
def rm_copySector : Room := { frames := 1, cells := 0, slots := 0, locals := 22 }
abbrev Inv_copySector : mm_K → List Value → mm_S → Nat → Nat → mm_V → mm_S → Prop := fun K _ _ k pc lv x => pc = 3 ∧ ∃ (a0 n0 r0 : Nat) (a2 n2 r2 : Nat) (u1 : Int32) (u3 : Int32) (u4 : Int32), lv = [(0, .ref a0), (1, .int u1), (2, .ref a2), (3, .int u3), (4, .int u4)] ∧ mm_ar LC a0 = some (0, n0, r0) ∧ mm_ar LC a2 = some (0, n2, r2) ∧ mm_ms u4 64 < k ∧ K none (l_copySector_3 k n0 r0 n2 r2 u1 u3 u4 x)
set_option maxRecDepth 10000 in
theorem c_copySector (l : Launch) : mm_Con l NW CL TB LC y_TS_copySector b_TS_copySector 5 (none) rm_copySector S_copySector := by
  refine mm_con G_copySector [3] Inv_copySector (by decide +kernel) tb_good LC_u nw_nest ?_ rfl ft_TS ci_TS cj_TS ?_ ?_ ?_ ?_
  · rintro as x K ⟨a0, n0, r0, v1, a2, n2, r2, v3, rfl, -⟩
    exact Nat.le_of_ble_eq_true rfl
  · exact mm_tb_e (List.forall_mem_cons.mpr ⟨mm_cst_i (c_byteAt l) (mm_cb_i rfl rfl (by decide) (by decide) tc_TS_byteAt ti_TS ⟨by decide, by decide, by decide +kernel⟩ (Or.inl tl_TS_139)) ts_TS_byteAt, List.forall_mem_cons.mpr ⟨mm_cst_i (c_putByte l) (mm_cb_i rfl rfl (by decide) (by decide) tc_TS_putByte ti_TS ⟨by decide, by decide, by decide +kernel⟩ (Or.inl tl_TS_91)) ts_TS_putByte, fun _ h => absurd h List.not_mem_nil⟩⟩)
  · exact mm_tb_e (fun _ h => absurd h List.not_mem_nil)
  · rintro as x K ⟨a0, n0, r0, v1, a2, n2, r2, v3, rfl, ha0, ha2, hk⟩
    refine ⟨400, ?_⟩
    refine v_iconst d_TS_copySector_0 ki_0 ?_
    refine a_go (by decide) (v_istore d_TS_copySector_1 (by decide) ?_)
    refine a_cut (by decide) ⟨rfl, _, [(0, _), (1, _), (2, _), (3, _), (4, _)], (mm_all_c rfl (mm_all_c rfl (mm_all_c rfl (mm_all_c rfl (mm_all_c rfl (mm_all_n)))))), rfl, _, _, _, _, _, _, _, _, _, rfl, ha0, ha2, ?_, (mm_mvS hk rfl)⟩
    · exact mm_ent _ _
  · rintro as x0 K - k pc lv x - ⟨rfl, a0, n0, r0, a2, n2, r2, u1, u3, u4, rfl, ha0, ha2, hm, hk⟩
    obtain ⟨k, rfl⟩ := mm_pos hm
    refine ⟨400, ?_⟩
    refine v_iload d_TS_copySector_3 rfl ?_
    refine a_go (by decide) (v_bipush d_TS_copySector_5 kb_64 ?_)
    refine a_go (by decide) (v_icmp_ge d_TS_copySector_7 (t := 32) (by decide) (fun c1 => ?_) (fun c1 => ?_))
    · skip
      refine a_go (by decide) (v_return d_TS_copySector_32 rfl ?_)
      exact mm_fiS hk (mm_ifp c1 rfl)
    · skip
      refine a_go (by decide) (v_aload_n d_TS_copySector_10 rfl ?_)
      refine a_go (by decide) (v_iload_n d_TS_copySector_11 rfl ?_)
      refine a_go (by decide) (v_iload d_TS_copySector_12 rfl ?_)
      refine a_go (by decide) (v_iadd d_TS_copySector_14 ?_)
      refine a_go (by decide) (v_aload_n d_TS_copySector_15 rfl ?_)
      refine a_go (by decide) (v_iload_n d_TS_copySector_16 rfl ?_)
      refine a_go (by decide) (v_iload d_TS_copySector_17 rfl ?_)
      refine a_go (by decide) (v_iadd d_TS_copySector_19 ?_)
      refine a_go (by decide) (v_callS d_TS_copySector_20 rfl (mm_spl 2 rfl) rfl (Nat.le_of_ble_eq_true rfl) ?_)
      refine (i_byteAt ha0 ?_)
      refine a_go (by decide) (v_callS d_TS_copySector_23 rfl (mm_spl 3 rfl) rfl (Nat.le_of_ble_eq_true rfl) ?_)
      refine (i_putByte ha2 ?_)
      refine a_go (by decide) (v_iinc d_TS_copySector_26 (by decide) rfl ki_1 ?_)
      refine a_go (by decide) (v_goto d_TS_copySector_29 (t := 3) (by decide) ?_)
      refine a_cut (by decide) ⟨rfl, _, [(0, _), (1, _), (2, _), (3, _), (4, _)], ?_, (mm_all_c rfl (mm_all_c rfl (mm_all_c rfl (mm_all_c rfl (mm_all_c rfl (mm_all_n)))))), rfl, _, _, _, _, _, _, _, _, _, rfl, ha0, ha2, ?_, (mm_mvS hk (mm_ifn c1 rfl))⟩
      · exact Nat.lt_succ_self _
      · exact mm_dec c1 hm
theorem l_copySector_1 (k : Nat) : ∀ (n : Nat) (r : Nat) (n2 : Nat) (r2 : Nat) (a : Int32) (b : Int32) (i : Int32) (x : mm_S), (l_copySector_3 k n r n2 r2 a b i x).1 = x.1 := by
  induction k with
  | zero => intros; rfl
  | succ k ih =>
    intro n r n2 r2 a b i x
    simp only [l_copySector_3]
    split
    · rfl
    · rw [ih, e_putByte_1]
theorem e_copySector_1 (n r : Nat) (a : Int32) (n2 r2 : Nat) (b : Int32) (x : mm_S) : (e_copySector n r a n2 r2 b x).1 = x.1 := by
  simp only [e_copySector, l_copySector_1]
