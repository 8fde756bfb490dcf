/-! The reference's append: its five choices. -/
theorem cmp_2 {v : Int64} (h : v = -2) : lg_cmp v (-2) = 0 := pu_cmp_eq.mpr h
theorem cmp_n {v : Int64} (h : ¬ v = -2) : ¬ lg_cmp v (-2) = 0 := fun q => h (pu_cmp_eq.mp q)
set_option maxHeartbeats 4000000 in
theorem am_r {y : mm_S} {a : Nat} {v0 v1 v2 v3 : Int32} {v4 : Int64} (hn : nw (y.2.2 10) = some a) : e_m_appended v0 v1 v2 v3 v4 y = l_m_appended_145 (mm_fu (nI (a + 16)) (nI (64 * (a / 64 + 1)))) (nI (a / 64)) (nI (a + 16)) (e_m_lineIs (rdn (y.2.2 10) a 4 0 + 1) (if v0 = -2 then y.2.2 10 (a + 4) else v0) (if v1 = -2 then y.2.2 10 (a + 5) else v1) (if v2 = -2 then y.2.2 10 (a + 6) else v2) (if v3 = -2 then y.2.2 10 (a + 7) else v3) (if v4 = -2 then rdn (y.2.2 10) (a + 8) 4 0 else v4) y) := by
  obtain ⟨g1, g2, g3⟩ := nw_b hn
  have e0 : e_m_newest y = nI a := by
    rw [nm, hn]
    rfl
  have e4 : nI a + 4 = nI (a + 4) := nI_add a 4
  have e5 : nI a + 5 = nI (a + 5) := nI_add a 5
  have e6 : nI a + 6 = nI (a + 6) := nI_add a 6
  have e7 : nI a + 7 = nI (a + 7) := nI_add a 7
  have e8 : nI a + 8 = nI (a + 8) := nI_add a 8
  have e16 : nI a + 16 = nI (a + 16) := nI_add a 16
  have ed : nI a / 64 = nI (a / 64) := dv64 a (by omega)
  have r0 : e_m_read 4096 10 (nI a) 4 y = rdn (y.2.2 10) a 4 0 := re_read (b := 4) (by omega)
  have r8 : e_m_read 4096 10 (nI (a + 8)) 4 y = rdn (y.2.2 10) (a + 8) 4 0 := re_read (b := 4) (by omega)
  unfold e_m_appended
  dsimp only
  rw [e0, e4, e5, e6, e7, e8, e16, ed, se_1, r0, r8, pu_clamp (n := a + 4) (by omega), pu_clamp (n := a + 5) (by omega), pu_clamp (n := a + 6) (by omega), pu_clamp (n := a + 7) (by omega)]
  by_cases h0 : v0 = -2
  · rw [if_pos h0, if_pos h0]
    by_cases h1 : v1 = -2
    · rw [if_pos h1, if_pos h1]
      by_cases h2 : v2 = -2
      · rw [if_pos h2, if_pos h2]
        by_cases h3 : v3 = -2
        · rw [if_pos h3, if_pos h3]
          by_cases h4 : v4 = -2
          · rw [if_pos (cmp_2 h4), if_pos h4]
          · rw [if_neg (cmp_n h4), if_neg h4]
        · rw [if_neg h3, if_neg h3]
          by_cases h4 : v4 = -2
          · rw [if_pos (cmp_2 h4), if_pos h4]
          · rw [if_neg (cmp_n h4), if_neg h4]
      · rw [if_neg h2, if_neg h2]
        by_cases h3 : v3 = -2
        · rw [if_pos h3, if_pos h3]
          by_cases h4 : v4 = -2
          · rw [if_pos (cmp_2 h4), if_pos h4]
          · rw [if_neg (cmp_n h4), if_neg h4]
        · rw [if_neg h3, if_neg h3]
          by_cases h4 : v4 = -2
          · rw [if_pos (cmp_2 h4), if_pos h4]
          · rw [if_neg (cmp_n h4), if_neg h4]
    · rw [if_neg h1, if_neg h1]
      by_cases h2 : v2 = -2
      · rw [if_pos h2, if_pos h2]
        by_cases h3 : v3 = -2
        · rw [if_pos h3, if_pos h3]
          by_cases h4 : v4 = -2
          · rw [if_pos (cmp_2 h4), if_pos h4]
          · rw [if_neg (cmp_n h4), if_neg h4]
        · rw [if_neg h3, if_neg h3]
          by_cases h4 : v4 = -2
          · rw [if_pos (cmp_2 h4), if_pos h4]
          · rw [if_neg (cmp_n h4), if_neg h4]
      · rw [if_neg h2, if_neg h2]
        by_cases h3 : v3 = -2
        · rw [if_pos h3, if_pos h3]
          by_cases h4 : v4 = -2
          · rw [if_pos (cmp_2 h4), if_pos h4]
          · rw [if_neg (cmp_n h4), if_neg h4]
        · rw [if_neg h3, if_neg h3]
          by_cases h4 : v4 = -2
          · rw [if_pos (cmp_2 h4), if_pos h4]
          · rw [if_neg (cmp_n h4), if_neg h4]
  · rw [if_neg h0, if_neg h0]
    by_cases h1 : v1 = -2
    · rw [if_pos h1, if_pos h1]
      by_cases h2 : v2 = -2
      · rw [if_pos h2, if_pos h2]
        by_cases h3 : v3 = -2
        · rw [if_pos h3, if_pos h3]
          by_cases h4 : v4 = -2
          · rw [if_pos (cmp_2 h4), if_pos h4]
          · rw [if_neg (cmp_n h4), if_neg h4]
        · rw [if_neg h3, if_neg h3]
          by_cases h4 : v4 = -2
          · rw [if_pos (cmp_2 h4), if_pos h4]
          · rw [if_neg (cmp_n h4), if_neg h4]
      · rw [if_neg h2, if_neg h2]
        by_cases h3 : v3 = -2
        · rw [if_pos h3, if_pos h3]
          by_cases h4 : v4 = -2
          · rw [if_pos (cmp_2 h4), if_pos h4]
          · rw [if_neg (cmp_n h4), if_neg h4]
        · rw [if_neg h3, if_neg h3]
          by_cases h4 : v4 = -2
          · rw [if_pos (cmp_2 h4), if_pos h4]
          · rw [if_neg (cmp_n h4), if_neg h4]
    · rw [if_neg h1, if_neg h1]
      by_cases h2 : v2 = -2
      · rw [if_pos h2, if_pos h2]
        by_cases h3 : v3 = -2
        · rw [if_pos h3, if_pos h3]
          by_cases h4 : v4 = -2
          · rw [if_pos (cmp_2 h4), if_pos h4]
          · rw [if_neg (cmp_n h4), if_neg h4]
        · rw [if_neg h3, if_neg h3]
          by_cases h4 : v4 = -2
          · rw [if_pos (cmp_2 h4), if_pos h4]
          · rw [if_neg (cmp_n h4), if_neg h4]
      · rw [if_neg h2, if_neg h2]
        by_cases h3 : v3 = -2
        · rw [if_pos h3, if_pos h3]
          by_cases h4 : v4 = -2
          · rw [if_pos (cmp_2 h4), if_pos h4]
          · rw [if_neg (cmp_n h4), if_neg h4]
        · rw [if_neg h3, if_neg h3]
          by_cases h4 : v4 = -2
          · rw [if_pos (cmp_2 h4), if_pos h4]
          · rw [if_neg (cmp_n h4), if_neg h4]
set_option maxHeartbeats 4000000 in
theorem ao_r {y : mm_S} {a : Nat} {v0 v1 v2 v3 : Int32} {v4 : Int64} (hn : nw (y.2.2 10) = some a) (h : okl_m_appended_145 (mm_fu (nI (a + 16)) (nI (64 * (a / 64 + 1)))) (nI (a / 64)) (nI (a + 16)) (e_m_lineIs (rdn (y.2.2 10) a 4 0 + 1) (if v0 = -2 then y.2.2 10 (a + 4) else v0) (if v1 = -2 then y.2.2 10 (a + 5) else v1) (if v2 = -2 then y.2.2 10 (a + 6) else v2) (if v3 = -2 then y.2.2 10 (a + 7) else v3) (if v4 = -2 then rdn (y.2.2 10) (a + 8) 4 0 else v4) y)) : ok_m_appended v0 v1 v2 v3 v4 y := by
  obtain ⟨g1, g2, g3⟩ := nw_b hn
  have e0 : e_m_newest y = nI a := by
    rw [nm, hn]
    rfl
  have e4 : nI a + 4 = nI (a + 4) := nI_add a 4
  have e5 : nI a + 5 = nI (a + 5) := nI_add a 5
  have e6 : nI a + 6 = nI (a + 6) := nI_add a 6
  have e7 : nI a + 7 = nI (a + 7) := nI_add a 7
  have e8 : nI a + 8 = nI (a + 8) := nI_add a 8
  have e16 : nI a + 16 = nI (a + 16) := nI_add a 16
  have ed : nI a / 64 = nI (a / 64) := dv64 a (by omega)
  have r0 : e_m_read 4096 10 (nI a) 4 y = rdn (y.2.2 10) a 4 0 := re_read (b := 4) (by omega)
  have r8 : e_m_read 4096 10 (nI (a + 8)) 4 y = rdn (y.2.2 10) (a + 8) 4 0 := re_read (b := 4) (by omega)
  have o0 : ok_m_read 4096 10 (nI a) 4 y := ok_rd (b := 4) (by omega) (by decide)
  have o8 : ok_m_read 4096 10 (nI (a + 8)) 4 y := ok_rd (b := 4) (by omega) (by decide)
  have o4 : vp_in (nI (a + 4)) 4096 := nI_in (by omega) (by decide)
  have o5 : vp_in (nI (a + 5)) 4096 := nI_in (by omega) (by decide)
  have o6 : vp_in (nI (a + 6)) 4096 := nI_in (by omega) (by decide)
  have o7 : vp_in (nI (a + 7)) 4096 := nI_in (by omega) (by decide)
  unfold ok_m_appended
  dsimp only
  rw [e0, e4, e5, e6, e7, e8, e16, ed, se_1, r0, r8, pu_clamp (n := a + 4) (by omega), pu_clamp (n := a + 5) (by omega), pu_clamp (n := a + 6) (by omega), pu_clamp (n := a + 7) (by omega)]
  refine ⟨nm_ok y, o0, ?_⟩
  by_cases h0 : v0 = -2
  · rw [if_pos h0] at h ⊢
    refine ⟨o4, ?_⟩
    by_cases h1 : v1 = -2
    · rw [if_pos h1] at h ⊢
      refine ⟨o5, ?_⟩
      by_cases h2 : v2 = -2
      · rw [if_pos h2] at h ⊢
        refine ⟨o6, ?_⟩
        by_cases h3 : v3 = -2
        · rw [if_pos h3] at h ⊢
          refine ⟨o7, ?_⟩
          by_cases h4 : v4 = -2
          · rw [if_pos h4] at h
            rw [if_pos (cmp_2 h4)]
            exact ⟨o8, lo_m, h⟩
          · rw [if_neg h4] at h
            rw [if_neg (cmp_n h4)]
            exact ⟨lo_m, h⟩
        · rw [if_neg h3] at h ⊢
          by_cases h4 : v4 = -2
          · rw [if_pos h4] at h
            rw [if_pos (cmp_2 h4)]
            exact ⟨o8, lo_m, h⟩
          · rw [if_neg h4] at h
            rw [if_neg (cmp_n h4)]
            exact ⟨lo_m, h⟩
      · rw [if_neg h2] at h ⊢
        by_cases h3 : v3 = -2
        · rw [if_pos h3] at h ⊢
          refine ⟨o7, ?_⟩
          by_cases h4 : v4 = -2
          · rw [if_pos h4] at h
            rw [if_pos (cmp_2 h4)]
            exact ⟨o8, lo_m, h⟩
          · rw [if_neg h4] at h
            rw [if_neg (cmp_n h4)]
            exact ⟨lo_m, h⟩
        · rw [if_neg h3] at h ⊢
          by_cases h4 : v4 = -2
          · rw [if_pos h4] at h
            rw [if_pos (cmp_2 h4)]
            exact ⟨o8, lo_m, h⟩
          · rw [if_neg h4] at h
            rw [if_neg (cmp_n h4)]
            exact ⟨lo_m, h⟩
    · rw [if_neg h1] at h ⊢
      by_cases h2 : v2 = -2
      · rw [if_pos h2] at h ⊢
        refine ⟨o6, ?_⟩
        by_cases h3 : v3 = -2
        · rw [if_pos h3] at h ⊢
          refine ⟨o7, ?_⟩
          by_cases h4 : v4 = -2
          · rw [if_pos h4] at h
            rw [if_pos (cmp_2 h4)]
            exact ⟨o8, lo_m, h⟩
          · rw [if_neg h4] at h
            rw [if_neg (cmp_n h4)]
            exact ⟨lo_m, h⟩
        · rw [if_neg h3] at h ⊢
          by_cases h4 : v4 = -2
          · rw [if_pos h4] at h
            rw [if_pos (cmp_2 h4)]
            exact ⟨o8, lo_m, h⟩
          · rw [if_neg h4] at h
            rw [if_neg (cmp_n h4)]
            exact ⟨lo_m, h⟩
      · rw [if_neg h2] at h ⊢
        by_cases h3 : v3 = -2
        · rw [if_pos h3] at h ⊢
          refine ⟨o7, ?_⟩
          by_cases h4 : v4 = -2
          · rw [if_pos h4] at h
            rw [if_pos (cmp_2 h4)]
            exact ⟨o8, lo_m, h⟩
          · rw [if_neg h4] at h
            rw [if_neg (cmp_n h4)]
            exact ⟨lo_m, h⟩
        · rw [if_neg h3] at h ⊢
          by_cases h4 : v4 = -2
          · rw [if_pos h4] at h
            rw [if_pos (cmp_2 h4)]
            exact ⟨o8, lo_m, h⟩
          · rw [if_neg h4] at h
            rw [if_neg (cmp_n h4)]
            exact ⟨lo_m, h⟩
  · rw [if_neg h0] at h ⊢
    by_cases h1 : v1 = -2
    · rw [if_pos h1] at h ⊢
      refine ⟨o5, ?_⟩
      by_cases h2 : v2 = -2
      · rw [if_pos h2] at h ⊢
        refine ⟨o6, ?_⟩
        by_cases h3 : v3 = -2
        · rw [if_pos h3] at h ⊢
          refine ⟨o7, ?_⟩
          by_cases h4 : v4 = -2
          · rw [if_pos h4] at h
            rw [if_pos (cmp_2 h4)]
            exact ⟨o8, lo_m, h⟩
          · rw [if_neg h4] at h
            rw [if_neg (cmp_n h4)]
            exact ⟨lo_m, h⟩
        · rw [if_neg h3] at h ⊢
          by_cases h4 : v4 = -2
          · rw [if_pos h4] at h
            rw [if_pos (cmp_2 h4)]
            exact ⟨o8, lo_m, h⟩
          · rw [if_neg h4] at h
            rw [if_neg (cmp_n h4)]
            exact ⟨lo_m, h⟩
      · rw [if_neg h2] at h ⊢
        by_cases h3 : v3 = -2
        · rw [if_pos h3] at h ⊢
          refine ⟨o7, ?_⟩
          by_cases h4 : v4 = -2
          · rw [if_pos h4] at h
            rw [if_pos (cmp_2 h4)]
            exact ⟨o8, lo_m, h⟩
          · rw [if_neg h4] at h
            rw [if_neg (cmp_n h4)]
            exact ⟨lo_m, h⟩
        · rw [if_neg h3] at h ⊢
          by_cases h4 : v4 = -2
          · rw [if_pos h4] at h
            rw [if_pos (cmp_2 h4)]
            exact ⟨o8, lo_m, h⟩
          · rw [if_neg h4] at h
            rw [if_neg (cmp_n h4)]
            exact ⟨lo_m, h⟩
    · rw [if_neg h1] at h ⊢
      by_cases h2 : v2 = -2
      · rw [if_pos h2] at h ⊢
        refine ⟨o6, ?_⟩
        by_cases h3 : v3 = -2
        · rw [if_pos h3] at h ⊢
          refine ⟨o7, ?_⟩
          by_cases h4 : v4 = -2
          · rw [if_pos h4] at h
            rw [if_pos (cmp_2 h4)]
            exact ⟨o8, lo_m, h⟩
          · rw [if_neg h4] at h
            rw [if_neg (cmp_n h4)]
            exact ⟨lo_m, h⟩
        · rw [if_neg h3] at h ⊢
          by_cases h4 : v4 = -2
          · rw [if_pos h4] at h
            rw [if_pos (cmp_2 h4)]
            exact ⟨o8, lo_m, h⟩
          · rw [if_neg h4] at h
            rw [if_neg (cmp_n h4)]
            exact ⟨lo_m, h⟩
      · rw [if_neg h2] at h ⊢
        by_cases h3 : v3 = -2
        · rw [if_pos h3] at h ⊢
          refine ⟨o7, ?_⟩
          by_cases h4 : v4 = -2
          · rw [if_pos h4] at h
            rw [if_pos (cmp_2 h4)]
            exact ⟨o8, lo_m, h⟩
          · rw [if_neg h4] at h
            rw [if_neg (cmp_n h4)]
            exact ⟨lo_m, h⟩
        · rw [if_neg h3] at h ⊢
          by_cases h4 : v4 = -2
          · rw [if_pos h4] at h
            rw [if_pos (cmp_2 h4)]
            exact ⟨o8, lo_m, h⟩
          · rw [if_neg h4] at h
            rw [if_neg (cmp_n h4)]
            exact ⟨lo_m, h⟩
