/-! A header composed. -/
theorem p64 {p : Nat} {v : Int32} {x : mm_S} (hp : p < 64) : e_putByte 64 3 (nI p) v x = mm_setA x 3 (upd (x.2.2 3) p (bt v)) := pb hp (by decide)
theorem p64_12 (v : Int32) (x : mm_S) : e_putByte 64 3 12 v x = mm_setA x 3 (upd (x.2.2 3) 12 (bt v)) := p64 (p := 12) (by decide)
theorem n64_0 (v : Int64) (x : mm_S) : e_putNumber 64 3 0 4 v x = mm_setA x 3 (wr (x.2.2 3) 0 4 (fun t => bt (nbt v 4 t))) := pn_l (n := 64) (r := 3) (a := 0) (m := 4) (by decide) (by decide) v x
theorem n64_4 (v : Int64) (x : mm_S) : e_putNumber 64 3 4 4 v x = mm_setA x 3 (wr (x.2.2 3) 4 4 (fun t => bt (nbt v 4 t))) := pn_l (n := 64) (r := 3) (a := 4) (m := 4) (by decide) (by decide) v x
theorem n64_8 (v : Int64) (x : mm_S) : e_putNumber 64 3 8 4 v x = mm_setA x 3 (wr (x.2.2 3) 8 4 (fun t => bt (nbt v 4 t))) := pn_l (n := 64) (r := 3) (a := 8) (m := 4) (by decide) (by decide) v x
theorem n64_20 (v : Int64) (x : mm_S) : e_putNumber 64 3 20 8 v x = mm_setA x 3 (wr (x.2.2 3) 20 8 (fun t => bt (nbt v 8 t))) := pn_l (n := 64) (r := 3) (a := 20) (m := 8) (by decide) (by decide) v x
theorem n64_56 (v : Int64) (x : mm_S) : e_putNumber 64 3 56 8 v x = mm_setA x 3 (wr (x.2.2 3) 56 8 (fun t => bt (nbt v 8 t))) := pn_l (n := 64) (r := 3) (a := 56) (m := 8) (by decide) (by decide) v x
/-- the class's header without its seal -/
def H3 (x : mm_S) (v0 v1 v2 : Int32) (v3 : Int64) : Nat → Int32 := wr (upd (wr (wr (wr (wr (x.2.2 3) 0 64 (fun _ => vp_nar .byte 0)) 0 4 (fun t => bt (nbt 1415008083 4 t))) 4 4 (fun t => bt (nbt (Int32.toInt64 v0) 4 t))) 8 4 (fun t => bt (nbt (Int32.toInt64 v1) 4 t))) 12 (bt v2)) 20 8 (fun t => bt (nbt v3 8 t))
theorem hc_c {x : mm_S} {v0 v1 v2 : Int32} {v3 v4 : Int64} : e_hs_compose v0 v1 v2 v3 v4 x = mm_setA x 3 (wr (H3 x v0 v1 v2 v3) 56 8 (fun t => bt (nbt (dgs dg (fun j => H3 x v0 v1 v2 v3 j &&& 255) 0 56 v4) 8 t))) := by
  unfold e_hs_compose
  dsimp only
  rw [fl_l (by decide), n64_0, n64_4, n64_8, p64_12, n64_20]
  simp only [gAA, gAs]
  have e : ∀ z : mm_S, e_digest v4 64 3 0 56 z = dgs dg (fun j => z.2.2 3 j &&& 255) 0 56 v4 := fun z => dgc (n := 64) (r := 3) (a := 0) (e := 56) (v := v4) (x := z) (by decide) (by decide) (by decide)
  rw [e, n64_56]
  simp only [gAA, gAs, H3]
theorem m14_0 : Int32.toNatClampNeg 0 = 0 := by decide
theorem m14_1 : Int32.toNatClampNeg 1 = 1 := by decide
theorem m14_2 : Int32.toNatClampNeg 2 = 2 := by decide
theorem m14_3 : Int32.toNatClampNeg 3 = 3 := by decide
theorem k14_4 (v : Int64) (x : mm_S) : e_m_number 64 14 4 v 4 x = mm_setA x 14 (wr (x.2.2 14) 4 4 (fun t => nbt v 4 t &&& 255)) := mn_l (n := 64) (r := 14) (a := 4) (m := 4) (by decide) (by decide) v x
theorem k14_8 (v : Int64) (x : mm_S) : e_m_number 64 14 8 v 4 x = mm_setA x 14 (wr (x.2.2 14) 8 4 (fun t => nbt v 4 t &&& 255)) := mn_l (n := 64) (r := 14) (a := 8) (m := 4) (by decide) (by decide) v x
theorem k14_20 (v : Int64) (x : mm_S) : e_m_number 64 14 20 v 8 x = mm_setA x 14 (wr (x.2.2 14) 20 8 (fun t => nbt v 8 t &&& 255)) := mn_l (n := 64) (r := 14) (a := 20) (m := 8) (by decide) (by decide) v x
theorem k14_56 (v : Int64) (x : mm_S) : e_m_number 64 14 56 v 8 x = mm_setA x 14 (wr (x.2.2 14) 56 8 (fun t => nbt v 8 t &&& 255)) := mn_l (n := 64) (r := 14) (a := 56) (m := 8) (by decide) (by decide) v x
theorem h113_s (k : Nat) (u6 : Int64) (u8 : Int32) (x : mm_S) : l_m_header_113 (k + 1) u6 u8 x = if nI 56 ≤ u8 then e_m_number 64 14 56 u6 8 x else l_m_header_113 k (dg u6 (x.2.2 14 (Int32.toNatClampNeg u8))) (u8 + 1) x := by
  rw [← dg_m u6 (x.2.2 14 (Int32.toNatClampNeg u8)) x]
  rfl
theorem h113_l {x : mm_S} : ∀ (k i : Nat) (d : Int64), i ≤ 56 → 56 - i < k → l_m_header_113 k d (nI i) x = e_m_number 64 14 56 (dgs dg (x.2.2 14) i (56 - i) d) 8 x
  | 0, i, d, _, hk => by omega
  | k + 1, i, d, hi, hk => by
    by_cases q : 56 ≤ i
    · have e0 : 56 - i = 0 := by omega
      rw [h113_s, if_pos (le_t q (by omega)), e0]
      rfl
    · obtain ⟨c, hc⟩ : ∃ c, 56 - i = c + 1 := ⟨56 - i - 1, by omega⟩
      rw [h113_s, if_neg (le_f (by omega) (by omega)), nI_1, pu_clamp (by omega), h113_l k (i + 1) _ (by omega) (by omega), hc, dgs_s, show 56 - (i + 1) = c by omega]
theorem o113_s (k : Nat) (u6 : Int64) (u8 : Int32) (x : mm_S) : okl_m_header_113 (k + 1) u6 u8 x = if nI 56 ≤ u8 then (ok_m_number 64 14 56 u6 8 x ∧ True) else (vp_in u8 64 ∧ okl_m_header_113 k (e_m_digested u6 (x.2.2 14 (Int32.toNatClampNeg u8)) x) (u8 + 1) x) := rfl
theorem o113_l {x : mm_S} : ∀ (k i : Nat) (d : Int64), i ≤ 56 → 56 - i < k → okl_m_header_113 k d (nI i) x
  | 0, i, d, _, hk => by omega
  | k + 1, i, d, hi, hk => by
    rw [o113_s]
    by_cases q : 56 ≤ i
    · rw [if_pos (le_t q (by omega))]
      exact ⟨mo_l (n := 64) (a := 56) (m := 8) (by decide) (by decide) d x, trivial⟩
    · rw [if_neg (le_f (by omega) (by omega)), nI_1]
      exact ⟨nI_in (by omega) (by decide), o113_l k (i + 1) _ (by omega) (by omega)⟩
/-- the reference's header without its seal, from an array of zeroes -/
def H14 (f : Nat → Int32) (v0 v1 v2 : Int32) (v3 : Int64) : Nat → Int32 := wr (upd (wr (wr (upd (upd (upd (upd f 0 84) 1 87) 2 79) 3 83) 4 4 (fun t => nbt (Int32.toInt64 v0) 4 t &&& 255)) 8 4 (fun t => nbt (Int32.toInt64 v1) 4 t &&& 255)) 12 v2) 20 8 (fun t => nbt v3 8 t &&& 255)
def hE (v0 v1 v2 : Int32) (v3 : Int64) (x : mm_S) : mm_S := mm_setA x 14 (wr (H14 (x.2.2 14) v0 v1 v2 v3) 56 8 (fun t => nbt (dgs dg (H14 (x.2.2 14) v0 v1 v2 v3) 0 56 (e_m_numberOf v2 x)) 8 t &&& 255))
theorem h3_s (k : Nat) (u1 u2 u3 : Int32) (u4 : Int64) (u6 : Int32) (x : mm_S) : l_m_header_3 (k + 1) u1 u2 u3 u4 u6 x = if nI 64 ≤ u6 then hE u1 u2 u3 u4 x else l_m_header_3 k u1 u2 u3 u4 (u6 + 1) (mm_setA x 14 (upd (x.2.2 14) (Int32.toNatClampNeg u6) 0)) := by
  rw [l_m_header_3]
  dsimp only
  rw [m14_0, m14_1, m14_2, m14_3, cn_12, k14_4, k14_8, k14_20]
  simp only [gAA, gAs]
  have e : ∀ (d : Int64) (z : mm_S), l_m_header_113 (mm_fu 0 56) d 0 z = mm_setA z 14 (wr (z.2.2 14) 56 8 (fun t => nbt (dgs dg (z.2.2 14) 0 56 d) 8 t &&& 255)) := fun d z => (h113_l (mm_fu 0 56) 0 d (by decide) (by decide)).trans (k14_56 _ _)
  rw [e]
  simp only [gAA, gAs]
  rfl
theorem hc_m {y : mm_S} {v0 v1 v2 : Int32} {v3 : Int64} : e_m_header v0 v1 v2 v3 y = mm_setA y 14 (wr (H14 (wr (y.2.2 14) 0 64 (fun _ => 0)) v0 v1 v2 v3) 56 8 (fun t => nbt (dgs dg (H14 (wr (y.2.2 14) 0 64 (fun _ => 0)) v0 v1 v2 v3) 0 56 (e_m_numberOf v2 y)) 8 t &&& 255)) := by
  unfold e_m_header
  have h := wr_loop0 (fun k i x => l_m_header_3 k v0 v1 v2 v3 (nI i) x) (hE v0 v1 v2 v3) 14 0 64 (fun _ _ => 0) (fun k x => by
    rw [h3_s, if_pos (le_t (Nat.le_refl 64) (by decide))]) (fun k i x h => by
    rw [h3_s, if_neg (le_f h (by decide)), nI_1, pu_clamp (by omega), Nat.zero_add]) (fun _ _ _ _ _ _ => rfl) (mm_fu 0 64) y (by decide)
  refine h.trans ?_
  unfold hE
  rw [gAs, gAA]
  rfl
/-- byte for byte the same -/
theorem nb_m : ∀ t, t < 4 → nbt 1415008083 4 t &&& 255 = (if t = 0 then 84 else if t = 1 then 87 else if t = 2 then 79 else 83) := by decide +kernel
theorem hp_q {x : mm_S} {f : Nat → Int32} {v0 v1 v2 : Int32} {v3 : Int64} (hk : v2 = v2 &&& 255) : ∀ j, j < 56 → H14 (wr f 0 64 (fun _ => 0)) v0 v1 v2 v3 j = H3 x v0 v1 v2 v3 j &&& 255 := by
  intro j hj
  have z0 : vp_nar .byte 0 &&& 255 = (0 : Int32) := by decide
  unfold H14 H3
  by_cases h1 : j < 4
  · rw [wr_out (by omega), upd_n (by omega), wr_out (by omega), wr_out (by omega), wr_out (a := 20) (by omega), upd_n (a := 12) (by omega), wr_out (a := 8) (by omega), wr_out (a := 4) (by omega), wr_in (a := 0) (n := 4) (by omega) (by omega), bt_255, nb_m _ (by omega)]
    have : j = 0 ∨ j = 1 ∨ j = 2 ∨ j = 3 := by omega
    rcases this with h | h | h | h <;> subst h
    · rw [upd_n (by decide), upd_n (by decide), upd_n (by decide), upd_s]
      rfl
    · rw [upd_n (by decide), upd_n (by decide), upd_s]
      rfl
    · rw [upd_n (by decide), upd_s]
      rfl
    · rw [upd_s]
      rfl
  · by_cases h2 : j < 8
    · rw [wr_out (by omega), upd_n (by omega), wr_out (by omega), wr_in (by omega) (by omega), wr_out (a := 20) (by omega), upd_n (a := 12) (by omega), wr_out (a := 8) (by omega), wr_in (a := 4) (by omega) (by omega), bt_255]
    · by_cases h3 : j < 12
      · rw [wr_out (by omega), upd_n (by omega), wr_in (by omega) (by omega), wr_out (a := 20) (by omega), upd_n (a := 12) (by omega), wr_in (a := 8) (by omega) (by omega), bt_255]
      · by_cases h4 : j = 12
        · subst h4
          rw [wr_out (by decide), upd_s, wr_out (by decide), upd_s, bt_255]
          exact hk
        · by_cases h5 : 20 ≤ j ∧ j < 28
          · rw [wr_in (by omega) (by omega), wr_in (by omega) (by omega), bt_255]
          · rw [wr_out (by omega), upd_n h4, wr_out (by omega), wr_out (by omega), upd_n (by omega), upd_n (by omega), upd_n (by omega), upd_n (by omega), wr_in (by omega) (by omega), wr_out (a := 20) (by omega), upd_n (a := 12) h4, wr_out (a := 8) (by omega), wr_out (a := 4) (by omega), wr_out (a := 0) (n := 4) (by omega), wr_in (a := 0) (n := 64) (by omega) (by omega), z0]
theorem hd_q {x y : mm_S} {v0 v1 v2 : Int32} {v3 v4 : Int64} (hk : v2 = v2 &&& 255) (h4 : v4 = e_m_numberOf v2 y) : ∀ j, j < 64 → (e_m_header v0 v1 v2 v3 y).2.2 14 j = (e_hs_compose v0 v1 v2 v3 v4 x).2.2 3 j &&& 255 := by
  intro j hj
  have hq := hp_q (x := x) (f := y.2.2 14) (v0 := v0) (v1 := v1) (v2 := v2) (v3 := v3) hk
  rw [hc_c, hc_m, gAs, gAs]
  by_cases h : j < 56
  · rw [wr_out (by omega), wr_out (by omega)]
    exact hq j h
  · rw [wr_in (by omega) (by omega), wr_in (by omega) (by omega), bt_255, h4, dgs_congr (g := H14 (wr (y.2.2 14) 0 64 (fun _ => 0)) v0 v1 v2 v3) (h := fun j => H3 x v0 v1 v2 v3 j &&& 255) 56 0 _ (fun i _ hi => hq i (by omega))]
