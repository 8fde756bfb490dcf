/-! More calls: alter, count, record, slot. -/
theorem RA_t {x y : mm_S} {p : Nat} {v w : Int32} (h : RA x y) (hv : w = v &&& 255) : RA (mm_setA x 0 (upd (x.2.2 0) p v)) (mm_setA y 11 (upd (y.2.2 11) p w)) := by
  refine ⟨h.1, fun j hj => ?_, h.2.2⟩
  rw [gAs, gAs]
  by_cases hp : j = p
  · subst hp
    rw [upd_s, upd_s]
    exact hv
  · rw [upd_n hp, upd_n hp]
    exact h.2.1 j hj
theorem q_alter {x y : mm_S} {v0 v1 : Int32} (h : R x y) : Q (ok_m_alter v0 v1 y) (e_alter v0 v1 x) (e_m_alter v0 v1 y) := by
  obtain ⟨hA, hC, hM, hP, hV, hL⟩ := h
  have h0 : (x.1 0).toInt = 0 ∨ (x.1 0).toInt = 64 := by
    rcases hV.2.2.2.2.2.2.2.1 with q | q <;> rw [q]
    · exact Or.inl (by decide)
    · exact Or.inr (by decide)
  have e1 : (Int32.toInt64 (y.1 105 - 1)).toInt = (x.1 0).toInt - 1 := by
    rw [Int32.toInt_toInt64, hV.2.2.1, mm_subI (by rw [mm_1]; omega) (by rw [mm_1]; omega), mm_1]
  have i1 : e_m_in (Int32.toInt64 v0) 0 (Int32.toInt64 (y.1 105 - 1)) y = 0 ↔ ¬ (0 ≤ v0.toInt ∧ v0.toInt ≤ (x.1 0).toInt - 1) := in_q (by decide) e1
  have a1 : v0 < 0 ↔ v0.toInt < 0 := lt_l (by decide)
  have a2 : v0 < x.1 0 ↔ v0.toInt < (x.1 0).toInt := Int32.lt_iff_toInt_lt
  unfold ok_m_alter e_alter e_m_alter
  by_cases c1 : v0.toInt < 0
  · rw [if_pos (a1.mpr c1), if_pos (i1.mpr (by omega)), if_pos (i1.mpr (by omega))]
    exact ⟨trivial, rfl, hA, hC, hM, hP, hV, hL⟩
  · rw [if_neg (fun q => c1 (a1.mp q))]
    by_cases c2 : v0.toInt < (x.1 0).toInt
    · rw [if_pos (a2.mpr c2), if_neg (fun q => i1.mp q (by omega)), if_neg (fun q => i1.mp q (by omega))]
      obtain ⟨p, hp, rfl⟩ : ∃ p, p < 64 ∧ v0 = nI p := ⟨v0.toInt.toNat, by omega, ni_of (by omega)⟩
      dsimp only
      have hin : vp_in (nI p) 64 := nI_in hp (by decide)
      rw [ba hp (by decide), ba hp (by decide), pb hp (by decide), pu_clamp (by omega)]
      have hw : (y.2.2 11 p) ^^^ (v1 &&& 255) = bt ((x.2.2 0 p &&& 255) ^^^ v1) &&& 255 := by
        rw [bt_255, hA.2.1 _ hp]
        exact xo_q _ _
      have hA2 := RA_t (p := p) hA hw
      refine ⟨⟨hin, hin, hin, trivial⟩, (hA2.2.1 p hp).symm, hA2, RC_c hC rfl rfl rfl rfl rfl rfl rfl rfl, RM_c hM rfl rfl rfl rfl rfl rfl rfl rfl rfl rfl, RP_c hP rfl rfl rfl rfl rfl rfl, RV_c hV rfl rfl rfl rfl rfl rfl rfl rfl rfl rfl rfl, LG_cx hL rfl rfl rfl rfl rfl rfl rfl rfl⟩
    · rw [if_neg (fun q => c2 (a2.mp q)), if_pos (i1.mpr (by omega)), if_pos (i1.mpr (by omega))]
      exact ⟨trivial, rfl, hA, hC, hM, hP, hV, hL⟩
theorem sb_q {a b : Int32} {k : Int} (h : k = a.toInt - b.toInt) (h1 : -2 ^ 31 ≤ k) (h2 : k < 2 ^ 31) : (a - b).toInt = k := by
  rw [mm_subI (by omega) (by omega)]
  omega
theorem RO_a {x y : mm_S} (hV : RV x y) : x.1 2 = e_m_awaited y ∧ ok_m_awaited y := by
  unfold e_m_awaited ok_m_awaited
  rw [hV.2.2.2.1]
  rcases hV.2.2.2.2.2.2.2.2 with ⟨h1, h2⟩ | ⟨h1, h2, h3, h4, h5, h6⟩
  · rw [if_pos h1, if_pos h1]
    exact ⟨h2, trivial⟩
  · have hn : ¬ x.1 1 = -1 := by
      rcases h1 with h | h <;> rw [h] <;> decide
    have er : e_m_read 64 12 8 4 y = rdn (y.2.2 12) 8 4 0 := re_read (a := 8) (b := 4) (by decide)
    rw [if_neg hn, if_neg hn, er]
    refine ⟨?_, ok_rd (a := 8) (b := 4) (by decide) (by decide), trivial⟩
    apply Int32.toInt_inj.mp
    have e2 : (rdn (y.2.2 12) 8 4 0).toInt32.toInt = SZ y := by
      unfold SZ at *
      rw [pu_32, mm_bm (by omega) (by omega)]
    rw [h6]
    exact (sb_q (by rw [e2]) (by omega) (by omega)).symm
theorem q_count {x y : mm_S} {v0 : Int32} (h : R x y) : ok_m_count v0 y ∧ e_count v0 x = e_m_count v0 y := by
  obtain ⟨hA, hC, hM, hP, hV, hL⟩ := h
  have i1 : e_m_in (Int32.toInt64 v0) 0 6 y = 0 ↔ ¬ (0 ≤ v0.toInt ∧ v0.toInt ≤ 6) := in_q (by decide) (by decide)
  obtain ⟨w1, w2⟩ := RO_a hV
  obtain ⟨c0, c1, c2, c3, c4, c5, c6⟩ := hC
  unfold ok_m_count e_m_count
  by_cases hr : 0 ≤ v0.toInt ∧ v0.toInt ≤ 6
  · rw [if_neg (fun q => i1.mp q hr), if_neg (fun q => i1.mp q hr)]
    obtain ⟨k, hk, rfl⟩ : ∃ k, k < 7 ∧ v0 = nI k := ⟨v0.toInt.toNat, by omega, ni_of (by omega)⟩
    refine ⟨⟨nI_in hk (by decide), trivial⟩, ?_⟩
    rw [pu_clamp (by omega)]
    have : k = 0 ∨ k = 1 ∨ k = 2 ∨ k = 3 ∨ k = 4 ∨ k = 5 ∨ k = 6 := by omega
    rcases this with h | h | h | h | h | h | h <;> subst h
    · exact c0.symm
    · exact c1.symm
    · exact c2.symm
    · exact c3.symm
    · exact c4.symm
    · exact c5.symm
    · exact c6.symm
  · rw [if_pos (i1.mpr hr), if_pos (i1.mpr hr)]
    have n : ∀ k : Nat, k < 7 → ¬ v0 = nI k := fun k hk q => hr (by rw [q, nI_toInt (by omega)]; omega)
    unfold e_count
    rw [if_neg (show ¬ v0 = 0 from n 0 (by decide)), if_neg (show ¬ v0 = 1 from n 1 (by decide)), if_neg (show ¬ v0 = 2 from n 2 (by decide)), if_neg (show ¬ v0 = 3 from n 3 (by decide)), if_neg (show ¬ v0 = 4 from n 4 (by decide)), if_neg (show ¬ v0 = 5 from n 5 (by decide)), if_neg (show ¬ v0 = 6 from n 6 (by decide))]
    by_cases h7 : v0 = 7
    · rw [if_pos h7, if_pos h7, if_pos h7]
      exact ⟨trivial, hV.2.2.1.symm⟩
    · rw [if_neg h7, if_neg h7, if_neg h7]
      by_cases h8 : v0 = 8
      · rw [if_pos h8, if_pos h8, if_pos h8]
        exact ⟨⟨w2, trivial⟩, w1⟩
      · rw [if_neg h8, if_neg h8, if_neg h8]
        exact ⟨trivial, rfl⟩
theorem q_record {x y : mm_S} {v0 : Int32} (h : R x y) : ok_m_record v0 y ∧ e_record v0 x = e_m_record v0 y := by
  obtain ⟨hA, hC, hM, hP, hV, hL⟩ := h
  have i1 : e_m_in (Int32.toInt64 v0) 0 7 y = 0 ↔ ¬ (0 ≤ v0.toInt ∧ v0.toInt ≤ 7) := in_q (by decide) (by decide)
  have a1 : v0 < 0 ↔ v0.toInt < 0 := lt_l (by decide)
  have a2 : v0 ≤ 7 ↔ v0.toInt ≤ 7 := le_l (by decide)
  have hnm : e_m_newest y = x.1 21 := R_nm hA hL
  unfold ok_m_record e_record e_m_record
  by_cases c1 : v0.toInt < 0
  · rw [if_pos (a1.mpr c1), if_pos (i1.mpr (by omega)), if_pos (i1.mpr (by omega))]
    exact ⟨trivial, rfl⟩
  · rw [if_neg (fun q => c1 (a1.mp q))]
    by_cases c2 : v0.toInt ≤ 7
    · rw [if_pos (a2.mpr c2), if_neg (fun q => i1.mp q (by omega)), if_neg (fun q => i1.mp q (by omega)), hnm]
      dsimp only
      obtain ⟨l1, l2, l3⟩ := hL
      cases hn : nw (gF x) with
      | none =>
        have e : x.1 21 = -1 := by
          rw [l1, hn]
          rfl
        rw [if_pos e, if_pos e, if_pos e]
        exact ⟨⟨nm_ok y, trivial⟩, rfl⟩
      | some a =>
        obtain ⟨g1, g2, g3⟩ := nw_b hn
        obtain ⟨m1, m2, m3, m4, m5, m6⟩ := l3 a hn
        have e : x.1 21 = nI a := by
          rw [l1, hn]
          rfl
        have ne : ¬ x.1 21 = -1 := by
          rw [e]
          exact ni_m a (by omega)
        rw [if_neg ne, if_neg ne, if_neg ne, e, show nI a + 4 = nI (a + 4) from nI_add a 4, show nI a + 5 = nI (a + 5) from nI_add a 5, show nI a + 6 = nI (a + 6) from nI_add a 6, show nI a + 7 = nI (a + 7) from nI_add a 7, show nI a + 8 = nI (a + 8) from nI_add a 8, pu_clamp (n := a + 4) (by omega), pu_clamp (n := a + 5) (by omega), pu_clamp (n := a + 6) (by omega), pu_clamp (n := a + 7) (by omega), hA.1 (a + 4) (by omega), hA.1 (a + 5) (by omega), hA.1 (a + 6) (by omega), hA.1 (a + 7) (by omega)]
        have r0 : e_m_read 4096 10 (nI a) 4 y = rdn (gF x) a 4 0 := (re_read (b := 4) (by omega)).trans (rdn_congr (g := y.2.2 10) (h := gF x) 4 a 0 (fun j h1 h2 => hA.1 j (by omega)))
        have r8 : e_m_read 4096 10 (nI (a + 8)) 4 y = rdn (gF x) (a + 8) 4 0 := (re_read (b := 4) (by omega)).trans (rdn_congr (g := y.2.2 10) (h := gF x) 4 (a + 8) 0 (fun j h1 h2 => hA.1 j (by omega)))
        have o0 : ok_m_read 4096 10 (nI a) 4 y := ok_rd (b := 4) (by omega) (by decide)
        have o8 : ok_m_read 4096 10 (nI (a + 8)) 4 y := ok_rd (b := 4) (by omega) (by decide)
        have o4 : vp_in (nI (a + 4)) 4096 := nI_in (by omega) (by decide)
        have o5 : vp_in (nI (a + 5)) 4096 := nI_in (by omega) (by decide)
        have o6 : vp_in (nI (a + 6)) 4096 := nI_in (by omega) (by decide)
        have o7 : vp_in (nI (a + 7)) 4096 := nI_in (by omega) (by decide)
        rw [r0, r8, m1, m2, m3, m4, m5, m6]
        refine ⟨⟨nm_ok y, ?_⟩, ?_⟩
        · split
          · exact ⟨o0, trivial⟩
          · split
            · exact ⟨o4, trivial⟩
            · split
              · refine ⟨o5, ?_⟩
                split
                · trivial
                · exact ⟨o5, trivial⟩
              · split
                · exact ⟨o6, trivial⟩
                · split
                  · exact ⟨o7, trivial⟩
                  · split
                    · exact ⟨o8, trivial⟩
                    · split <;> trivial
        · rfl
    · rw [if_neg (fun q => c2 (a2.mp q)), if_pos (i1.mpr (by omega)), if_pos (i1.mpr (by omega))]
      exact ⟨trivial, rfl⟩
theorem R_SH {x y : mm_S} {s : Nat} (h : R x y) : R (SH x s) y := by
  obtain ⟨hA, hC, hM, hP, hV, hL⟩ := h
  exact ⟨RA_c hA rfl rfl rfl rfl rfl rfl, RC_c hC rfl rfl rfl rfl rfl rfl rfl rfl, RM_c hM rfl rfl rfl rfl rfl rfl rfl rfl rfl rfl, RP_c hP rfl rfl rfl rfl rfl rfl, RV_c hV rfl rfl rfl rfl rfl rfl rfl rfl rfl rfl rfl, LG_cx hL rfl rfl rfl rfl rfl rfl rfl rfl⟩
theorem ig_0 {y : mm_S} {s : Nat} (hs : s < 2) (h : e_m_isRight 4096 10 (nI (hd s)) y = 0) : e_m_isGood (nI s) y = 0 := by
  unfold e_m_isGood
  rw [if_neg (in_01 hs y), hd_h hs]
  dsimp only
  rw [if_pos h]
theorem q_slot {x y : mm_S} {v0 v1 : Int32} (h : R x y) : ok_m_slot v0 v1 y ∧ (e_slot v0 v1 x).1 = e_m_slot v0 v1 y ∧ R (e_slot v0 v1 x).2 y := by
  have h' := h
  obtain ⟨hA, hC, hM, hP, hV, hL⟩ := h'
  have i1 : e_m_in (Int32.toInt64 v0) 0 1 y = 0 ↔ ¬ (0 ≤ v0.toInt ∧ v0.toInt ≤ 1) := in_q (by decide) (by decide)
  have i2 : e_m_in (Int32.toInt64 v1) 0 4 y = 0 ↔ ¬ (0 ≤ v1.toInt ∧ v1.toInt ≤ 4) := in_q (by decide) (by decide)
  have a1 : v0 < 0 ↔ v0.toInt < 0 := lt_l (by decide)
  have a2 : v0 < 2 ↔ v0.toInt < 2 := lt_l (by decide)
  have a3 : v1 < 0 ↔ v1.toInt < 0 := lt_l (by decide)
  have a4 : v1 ≤ 4 ↔ v1.toInt ≤ 4 := le_l (by decide)
  unfold ok_m_slot e_slot e_m_slot
  by_cases c1 : v0.toInt < 0
  · rw [if_pos (a1.mpr c1), if_pos (i1.mpr (by omega)), if_pos (i1.mpr (by omega))]
    exact ⟨trivial, rfl, h⟩
  · rw [if_neg (fun q => c1 (a1.mp q))]
    by_cases c2 : v0.toInt < 2
    · rw [if_pos (a2.mpr c2), if_neg (fun q => i1.mp q (by omega)), if_neg (fun q => i1.mp q (by omega))]
      by_cases c3 : v1.toInt < 0
      · rw [if_pos (a3.mpr c3), if_pos (i2.mpr (by omega)), if_pos (i2.mpr (by omega))]
        exact ⟨trivial, rfl, h⟩
      · rw [if_neg (fun q => c3 (a3.mp q))]
        by_cases c4 : v1.toInt ≤ 4
        · rw [if_pos (a4.mpr c4), if_neg (fun q => i2.mp q (by omega)), if_neg (fun q => i2.mp q (by omega))]
          obtain ⟨s, hs, rfl⟩ : ∃ s, s < 2 ∧ v0 = nI s := ⟨v0.toInt.toNat, by omega, ni_of (by omega)⟩
          have hl := hd_l hs
          dsimp only
          rw [SH_r hs, hd_h hs]
          obtain ⟨R0, d1, d2, d3⟩ := rs_q hA hM hL hs
          have eR : e_isRight (SH x s) = e_m_isRight 4096 10 (nI (hd s)) y := D_e d1 d2
          rw [eR]
          have hR2 := R_SH (s := s) h
          obtain ⟨k1, k2, k3⟩ := ig_q (x := SH x s) (y := y) hR2.1 hR2.2.2.1 hR2.2.2.2.2.2 hs
          have hR3 := R_SH (s := s) hR2
          rw [k1]
          dsimp only
          have o12 : vp_in (nI (hd s) + 12) 4096 := by
            rw [show nI (hd s) + 12 = nI (hd s + 12) from nI_add _ 12]
            exact nI_in (by omega) (by decide)
          have o4 : ok_m_read 4096 10 (nI (hd s) + 4) 4 y := by
            rw [show nI (hd s) + 4 = nI (hd s + 4) from nI_add _ 4]
            exact ok_rd (b := 4) (by omega) (by decide)
          have o8 : ok_m_read 4096 10 (nI (hd s) + 8) 4 y := by
            rw [show nI (hd s) + 8 = nI (hd s + 8) from nI_add _ 8]
            exact ok_rd (b := 4) (by omega) (by decide)
          have r4 : e_hs_version (SH x s) = (e_m_read 4096 10 (nI (hd s) + 4) 4 y).toInt32 := by
            rw [s3_v, rs3 (by decide), show nI (hd s) + 4 = nI (hd s + 4) from nI_add _ 4]
            exact congrArg Int64.toInt32 ((re_read (b := 4) (by omega)).trans (rdn_congr (g := y.2.2 10) (h := gF x) 4 (hd s + 4) 0 (fun j h1 h2 => hA.1 j (by omega)))).symm
          have r8 : e_hs_size (SH x s) = (e_m_read 4096 10 (nI (hd s) + 8) 4 y).toInt32 := by
            rw [s3_s, rs3 (by decide), show nI (hd s) + 8 = nI (hd s + 8) from nI_add _ 8]
            exact congrArg Int64.toInt32 ((re_read (b := 4) (by omega)).trans (rdn_congr (g := y.2.2 10) (h := gF x) 4 (hd s + 8) 0 (fun j h1 h2 => hA.1 j (by omega)))).symm
          have r12 : e_hs_key (SH x s) = y.2.2 10 (Int32.toNatClampNeg (nI (hd s) + 12)) := by
            rw [s3_k, SH_g x (by decide), show nI (hd s) + 12 = nI (hd s + 12) from nI_add _ 12, pu_clamp (by omega)]
            exact (hA.1 _ (by omega)).symm
          have irk := ir_ok (n := 4096) (r := 10) (h := hd s) (y := y) (by omega) (by decide)
          obtain ⟨k, hk, rfl⟩ : ∃ k, k < 5 ∧ v1 = nI k := ⟨v1.toInt.toNat, by omega, ni_of (by omega)⟩
          have ig0 := ig_0 (y := y) hs
          generalize e_m_isRight 4096 10 (nI (hd s)) y = b at *
          generalize e_m_isGood (nI s) y = d at *
          have hk5 : k = 0 ∨ k = 1 ∨ k = 2 ∨ k = 3 ∨ k = 4 := by omega
          by_cases hb : b = 0
          · rw [if_pos hb, if_pos hb, if_pos hb, if_pos hb, if_pos hb]
            rcases hk5 with q | q | q | q | q <;> subst q
            · refine ⟨⟨irk, ?_⟩, ?_, hR2⟩
              · rw [if_neg (by decide), if_pos (by decide)]
                refine ⟨k2, ?_⟩
                split <;> trivial
              · rw [if_neg (by decide), if_pos (by decide), if_pos (ig0 hb)]
            · refine ⟨⟨irk, ?_⟩, ?_, hR2⟩
              · rw [if_neg (by decide), if_neg (by decide)]
                trivial
              · rw [if_neg (by decide), if_neg (by decide)]
            · refine ⟨⟨irk, ?_⟩, ?_, hR2⟩
              · rw [if_pos (by decide)]
                trivial
              · rw [if_pos (by decide)]
            · refine ⟨⟨irk, ?_⟩, ?_, hR2⟩
              · rw [if_pos (by decide)]
                trivial
              · rw [if_pos (by decide)]
            · refine ⟨⟨irk, ?_⟩, ?_, hR2⟩
              · rw [if_pos (by decide)]
                trivial
              · rw [if_pos (by decide)]
          · rw [if_neg hb, if_neg hb, if_neg hb, if_neg hb, if_neg hb]
            rcases hk5 with q | q | q | q | q <;> subst q
            · refine ⟨⟨irk, ?_⟩, ?_, ?_⟩
              · rw [if_neg (by decide), if_pos (by decide)]
                refine ⟨k2, ?_⟩
                split <;> trivial
              · rw [if_pos (show nI 0 = 0 by decide), if_neg (show ¬ (2 : Int32) ≤ nI 0 by decide), if_pos (show nI 0 = 0 by decide)]
                by_cases hq : d = 0
                · rw [if_pos hq, if_pos hq]
                · rw [if_neg hq, if_neg hq]
              · rw [if_pos (show nI 0 = 0 by decide)]
                by_cases hq : d = 0
                · rw [if_pos hq]
                  exact hR3
                · rw [if_neg hq]
                  exact hR3
            · refine ⟨⟨irk, ?_⟩, ?_, ?_⟩
              · rw [if_neg (by decide), if_neg (by decide)]
                trivial
              · rw [if_neg (by decide), if_pos (by decide), if_neg (by decide), if_neg (by decide)]
              · rw [if_neg (by decide), if_pos (by decide)]
                exact hR2
            · refine ⟨⟨irk, ?_⟩, ?_, ?_⟩
              · rw [if_pos (by decide), if_pos (by decide)]
                exact ⟨o4, trivial⟩
              · rw [if_neg (by decide), if_neg (by decide), if_pos (by decide), if_pos (by decide), if_pos (by decide)]
                exact r4
              · rw [if_neg (by decide), if_neg (by decide), if_pos (by decide)]
                exact hR2
            · refine ⟨⟨irk, ?_⟩, ?_, ?_⟩
              · rw [if_pos (by decide), if_neg (by decide), if_pos (by decide)]
                exact ⟨o8, trivial⟩
              · rw [if_neg (by decide), if_neg (by decide), if_neg (by decide), if_pos (by decide), if_pos (by decide), if_neg (by decide), if_pos (by decide)]
                exact r8
              · rw [if_neg (by decide), if_neg (by decide), if_neg (by decide), if_pos (by decide)]
                exact hR2
            · refine ⟨⟨irk, ?_⟩, ?_, ?_⟩
              · rw [if_pos (by decide), if_neg (by decide), if_neg (by decide)]
                exact ⟨o12, trivial⟩
              · rw [if_neg (by decide), if_neg (by decide), if_neg (by decide), if_neg (by decide), if_pos (by decide), if_neg (by decide), if_neg (by decide)]
                exact r12
              · rw [if_neg (by decide), if_neg (by decide), if_neg (by decide), if_neg (by decide)]
                exact hR2
        · rw [if_neg (fun q => c4 (a4.mp q)), if_pos (i2.mpr (by omega)), if_pos (i2.mpr (by omega))]
          exact ⟨trivial, rfl, h⟩
    · rw [if_neg (fun q => c2 (a2.mp q)), if_pos (i1.mpr (by omega)), if_pos (i1.mpr (by omega))]
      exact ⟨trivial, rfl, h⟩
