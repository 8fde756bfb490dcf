/-! boot, confirm, revoke, tick. -/
theorem q_boot {x y : mm_S} (h : R x y) : Q (ok_m_boot y) (e_boot x) (e_m_boot y) := by
  unfold ok_m_boot e_boot e_m_boot
  rw [h.2.2.2.1.1]
  by_cases c0 : x.1 12 = 0
  · rw [if_pos c0, if_pos c0, if_pos c0]
    obtain ⟨o, e, r, b⟩ := q_booted h c0
    generalize e_m_booted y = q at *
    generalize e_bootUp x = p at *
    dsimp only
    by_cases c : q.1 = 0
    · rw [if_pos c] at e
      rw [if_pos c, if_pos c]
      exact ⟨⟨o, trivial⟩, e, r⟩
    · rw [if_neg c] at e
      rw [if_neg c, if_neg c]
      exact ⟨⟨o, trivial⟩, e, r⟩
  · rw [if_neg c0, if_neg c0, if_neg c0]
    exact ⟨trivial, rfl, h⟩
theorem R_t0 {x y : mm_S} (h : R x y) : R (mm_setI x 4 0) (mm_setI y 104 0) := by
  obtain ⟨hA, hC, hM, hP, ⟨v1, v2, v3, v4, v5, v6, v7, v8, v9⟩, hL⟩ := h
  exact ⟨RA_c hA rfl rfl rfl rfl rfl rfl, RC_c hC rfl rfl rfl rfl rfl rfl rfl rfl, RM_c hM rfl rfl rfl rfl rfl rfl rfl rfl rfl rfl, RP_c hP rfl rfl rfl rfl rfl rfl, ⟨v1, rfl, v3, v4, v5, (by decide : 0 ≤ (0 : Int32).toInt ∧ (0 : Int32).toInt ≤ 20), fun q => absurd (show (0 : Int32) = 0 from rfl) q, v8, RO_c v9 rfl rfl rfl rfl⟩, LG_cx hL rfl rfl rfl rfl rfl rfl rfl rfl⟩
theorem run_s {x y : mm_S} (hV : RV x y) (h : ¬ x.1 3 = -1) : ∃ s, s < 2 ∧ x.1 3 = nI s := by
  rcases hV.2.2.2.2.1 with q | q | q
  · exact absurd q h
  · exact ⟨0, by decide, q⟩
  · exact ⟨1, by decide, q⟩
theorem q_confirm {x y : mm_S} (h : R x y) : Q (ok_m_confirm y) (e_confirm x) (e_m_confirm y) := by
  have h' := h
  obtain ⟨hA, hC, hM, hP, hV, hL⟩ := h'
  unfold ok_m_confirm e_confirm e_m_confirm
  rw [hP.1]
  by_cases c0 : x.1 12 = 0
  · rw [if_pos c0, if_pos c0, if_pos c0]
    rcases rg_q hV with ⟨r1, r2, r3, r4⟩ | ⟨r1, r2, r3, r4, r5⟩ | ⟨r1, r2, r3, r4, r5⟩
    · have e4 : x.1 4 = 0 := by
        by_cases c : x.1 4 = 0
        · exact c
        · exact absurd r1 (hV.2.2.2.2.2.2.1 c)
      rw [if_pos e4, if_pos r4, if_pos r4]
      exact ⟨trivial, rfl, h⟩
    · rw [if_pos r2, if_pos r5, if_pos r5]
      exact ⟨trivial, rfl, h⟩
    · rw [if_neg r2, if_neg r5, if_neg r5, R_nm hA hL]
      cases hn : nw (gF x) with
      | none =>
        have e : x.1 21 = -1 := by
          rw [hL.1, hn]
          rfl
        rw [if_pos e, if_pos e, if_pos e]
        exact ⟨⟨nm_ok y, trivial⟩, rfl, h⟩
      | some a =>
        obtain ⟨z1, z2, -⟩ := rc_q hL hn
        have ne : ¬ x.1 21 = -1 := by
          rw [z1]
          exact ni_m a (by omega)
        obtain ⟨s, hs, es⟩ := run_s hV r1
        have hl := hd_l hs
        have e3 : y.1 103 = nI s := hV.1.trans es
        have e3' : (SH x s).1 3 = nI s := es
        have e4 : e_m_read 4096 10 (nI (hd s) + 4) 4 y = rdn (gF x) (hd s + 4) 4 0 := by
          rw [show nI (hd s) + 4 = nI (hd s + 4) from nI_add _ 4]
          exact (re_read (b := 4) (by omega)).trans (rdn_congr (g := y.2.2 10) (h := gF x) 4 (hd s + 4) 0 (fun j h1 h2 => hA.1 j (by omega)))
        have o4 : ok_m_read 4096 10 (nI (hd s) + 4) 4 y := by
          rw [show nI (hd s) + 4 = nI (hd s + 4) from nI_add _ 4]
          exact ok_rd (b := 4) (by omega) (by decide)
        have r4' := rd4 (g := gF x) (a := hd s + 4) (gF_b x _ _)
        have hct := R_ct hA hL
        have hbl := bl_q (x := SH x s) r4' hct
        rw [if_neg ne, if_neg ne, if_neg ne, es, e3, SH_r hs, hd_h hs]
        dsimp only
        rw [s3_v, rs3 (by decide), e4, ct_m, e3']
        have hR1 := R_SH (s := s) h
        have x12 : (SH x s).1 12 = 0 := c0
        have hn1 : nw (gF (SH x s)) = some a := hn
        have e27 : (SH x s).1 27 = (ctY y).toInt32 := hct.1
        rw [e27]
        generalize hX : SH x s = X at *
        generalize hVV : rdn (gF x) (hd s + 4) 4 0 = V at *
        have fin : ∀ c : Int64, 0 ≤ c.toInt → ∃ (b : Int32) (p q : mm_S), e_appConfirmed (nI s) c.toInt32 X = (b, p) ∧ e_m_appended (nI s) 255 0 (-2) c y = (b, q) ∧ ok_m_appended (nI s) 255 0 (-2) c y ∧ Q (if b = 0 then True else (ok_m_counter (mm_setI q 104 0) ∧ True)) (if b = 0 then (-106, lsS p) else ((mm_setI p 4 0).1 27, mm_setI p 4 0)) (if b = 0 then (-106, q) else ((e_m_counter (mm_setI q 104 0)).toInt32, mm_setI q 104 0)) := by
          intro c hc
          obtain ⟨b, p, q, k1, k2, k3, k4⟩ := app_C (c := c) hR1 x12 hn1 hs hc
          refine ⟨b, p, q, k1, k2, k3, ?_⟩
          rcases k4.1 with ⟨hb, -⟩ | ⟨hb, -⟩
          · subst hb
            rw [if_neg n10, if_neg n10, if_neg n10]
            have hR2 := R_t0 (AP_R1 k4 hR1.2.2.2.2.1)
            refine ⟨⟨ct_ok _, trivial⟩, ?_, hR2⟩
            dsimp only
            rw [ct_m]
            exact (R_ct hR2.1 hR2.2.2.2.2.2).1
          · subst hb
            rw [if_pos rfl, if_pos rfl, if_pos rfl]
            exact ⟨trivial, rfl, AP_R0 k4⟩
        by_cases c1 : V.toInt < (ctY y).toInt
        · have hcm : lg_cmp V (ctY y) ≤ 0 := pu_cmp_le.mpr (by omega)
          rw [if_neg (fun q => (D_z hbl).mp q c1), if_pos hcm, if_pos hcm]
          obtain ⟨b, p, q, k1, k2, k3, k4, k5, k6⟩ := fin (ctY y) hct.2.1
          rw [k1, k2, ls_e]
          exact ⟨⟨nm_ok y, o4, ct_ok y, ct_ok y, k3, k4⟩, k5, k6⟩
        · rw [if_pos ((D_z hbl).mpr c1)]
          by_cases c2 : V.toInt ≤ (ctY y).toInt
          · have hcm : lg_cmp V (ctY y) ≤ 0 := pu_cmp_le.mpr c2
            have eV : V = ctY y := Int64.toInt_inj.mp (by omega)
            rw [if_pos hcm, if_pos hcm]
            obtain ⟨b, p, q, k1, k2, k3, k4, k5, k6⟩ := fin (ctY y) hct.2.1
            rw [eV, k1, k2, ls_e]
            exact ⟨⟨nm_ok y, o4, ct_ok y, ct_ok y, k3, k4⟩, k5, k6⟩
          · have hcm : ¬ lg_cmp V (ctY y) ≤ 0 := fun q => c2 (pu_cmp_le.mp q)
            rw [if_neg hcm, if_neg hcm]
            obtain ⟨b, p, q, k1, k2, k3, k4, k5, k6⟩ := fin V r4'.1
            rw [k1, k2, ls_e]
            exact ⟨⟨nm_ok y, o4, ct_ok y, k3, k4⟩, k5, k6⟩
  · rw [if_neg c0, if_neg c0, if_neg c0]
    exact ⟨trivial, rfl, h⟩
theorem rv_b : ∀ b, b < 256 → ∀ k, k < 4 → ¬ (nI b ||| ((1 : Int32) <<< (nI k &&& 31))) = -2 ∧ (nI b ||| ((1 : Int32) <<< (nI k &&& 31))) = (nI b ||| ((1 : Int32) <<< (nI k &&& 31))) &&& 255 := by decide +kernel
theorem q_revoke {x y : mm_S} {v0 : Int32} (h : R x y) : Q (ok_m_revoke v0 y) (e_revoke v0 x) (e_m_revoke v0 y) := by
  have h' := h
  obtain ⟨hA, hC, hM, hP, hV, hL⟩ := h'
  have i1 : e_m_in (Int32.toInt64 v0) 0 3 y = 0 ↔ ¬ (0 ≤ v0.toInt ∧ v0.toInt ≤ 3) := in_q (by decide) (by decide)
  have a1 : v0 < 0 ↔ v0.toInt < 0 := lt_l (by decide)
  have a2 : v0 < 4 ↔ v0.toInt < 4 := lt_l (by decide)
  unfold ok_m_revoke e_revoke e_m_revoke
  rw [hP.1]
  by_cases c0 : x.1 12 = 0
  · rw [if_pos c0, if_pos c0, if_pos c0]
    by_cases c1 : v0.toInt < 0
    · rw [if_pos (a1.mpr c1), if_pos (i1.mpr (by omega)), if_pos (i1.mpr (by omega))]
      exact ⟨trivial, rfl, h⟩
    · rw [if_neg (fun q => c1 (a1.mp q))]
      by_cases c2 : v0.toInt < 4
      · rw [if_pos (a2.mpr c2), if_neg (fun q => i1.mp q (by omega)), if_neg (fun q => i1.mp q (by omega)), R_nm hA hL]
        dsimp only
        rcases rg_q hV with ⟨r1, r2, r3, r4⟩ | ⟨r1, r2, r3, r4, r5⟩ | ⟨r1, r2, r3, r4, r5⟩
        · rw [if_pos r2, if_pos r3, if_pos r3]
          exact ⟨⟨nm_ok y, trivial⟩, rfl, h⟩
        · rw [if_neg r3, if_neg r4, if_neg r4, if_pos r5, if_pos r5, hV.2.2.2.1]
          by_cases c3 : x.1 1 = -1
          · rw [if_pos c3, if_pos c3, if_pos c3]
            cases hn : nw (gF x) with
            | none =>
              have e : x.1 21 = -1 := by
                rw [hL.1, hn]
                rfl
              rw [if_pos e, if_pos e, if_pos e]
              exact ⟨⟨nm_ok y, trivial⟩, rfl, h⟩
            | some a =>
              obtain ⟨z1, z2, z4, z5, z6, z7, z8, z9, z10, z11, z12, z13⟩ := rc_q hL hn
              have ne : ¬ x.1 21 = -1 := by
                rw [z1]
                exact ni_m a (by omega)
              obtain ⟨s, hs, es⟩ := run_s hV r1
              have hl := hd_l hs
              have e3 : y.1 103 = nI s := hV.1.trans es
              have f5 : y.2.2 10 (a + 5) = gF x (a + 5) := hA.1 _ (by omega)
              have f7 : y.2.2 10 (a + 7) = gF x (a + 7) := hA.1 _ (by omega)
              have f12 : y.2.2 10 (hd s + 12) = gF x (hd s + 12) := hA.1 _ (by omega)
              have o5 : vp_in (nI (a + 5)) 4096 := nI_in (by omega) (by decide)
              have o7 : vp_in (nI (a + 7)) 4096 := nI_in (by omega) (by decide)
              have o12 : vp_in (nI (hd s + 12)) 4096 := nI_in (by omega) (by decide)
              rw [if_neg ne, if_neg ne, if_neg ne, z1, e3, es, hd_h hs, SH_r hs, show nI a + 5 = nI (a + 5) from nI_add a 5, show nI a + 7 = nI (a + 7) from nI_add a 7, show nI (hd s) + 12 = nI (hd s + 12) from nI_add _ 12, pu_clamp (n := a + 5) (by omega), pu_clamp (n := a + 7) (by omega), pu_clamp (n := hd s + 12) (by omega), f5, f7, f12]
              have e26 : (SH x s).1 26 = gF x (a + 7) := z13
              rw [s3_k, SH_g x (by decide), e26]
              have hR1 := R_SH (s := s) h
              rcases z9 with ⟨y1, y2⟩ | ⟨y1, y2, y3, -⟩
              · rw [if_pos y1, if_pos y2, if_pos y2]
                by_cases c4 : gF x (hd s + 12) = v0
                · rw [if_pos c4, if_pos c4, if_pos c4]
                  exact ⟨⟨nm_ok y, o5, o12, trivial⟩, rfl, hR1⟩
                · rw [if_neg c4, if_neg c4, if_neg c4]
                  obtain ⟨k, hk, rfl⟩ : ∃ k, k < 4 ∧ v0 = nI k := ⟨v0.toInt.toNat, by omega, ni_of (by omega)⟩
                  have hir : D (((gF x (a + 7)) >>> (nI k &&& 31)) &&& 1 = 1) (e_isRevoked (nI k) (SH x s)) := by
                    unfold e_isRevoked
                    rw [e26]
                    exact D_1 Iff.rfl
                  by_cases c5 : ((gF x (a + 7)) >>> (nI k &&& 31)) &&& 1 = 1
                  · rw [if_neg (fun q => (D_z hir).mp q c5), if_pos c5, if_pos c5]
                    exact ⟨⟨nm_ok y, o5, o12, o7, trivial⟩, rfl, hR1⟩
                  · rw [if_pos ((D_z hir).mpr c5), if_neg c5, if_neg c5]
                    have b7 := gF_b x 0 4096 (a + 7) (by omega) (by omega)
                    have hv := rv_b (gF x (a + 7)).toInt.toNat (by omega) k hk
                    rw [← ni_of b7.1] at hv
                    obtain ⟨b, p, q, k1, k2, k3, k4⟩ := app_V (x := SH x s) (y := y) (v := (gF x (a + 7)) ||| ((1 : Int32) <<< (nI k &&& 31))) hR1 c0 hn hv.1 hv.2
                    rw [k1, k2]
                    dsimp only
                    rcases k4.1 with ⟨hb, -⟩ | ⟨hb, -⟩
                    · subst hb
                      rw [if_neg n10, if_neg n10, if_neg n10]
                      exact ⟨⟨nm_ok y, o5, o12, o7, o7, k3, trivial⟩, rfl, AP_R1 k4 hR1.2.2.2.2.1⟩
                    · subst hb
                      rw [if_pos rfl, if_pos rfl, if_pos rfl, ls_e]
                      exact ⟨⟨nm_ok y, o5, o12, o7, o7, k3, trivial⟩, rfl, AP_R0 k4⟩
              · rw [if_neg y1, if_neg y3, if_neg y3]
                exact ⟨⟨nm_ok y, o5, trivial⟩, rfl, h⟩
          · rw [if_neg c3, if_neg c3, if_neg c3]
            exact ⟨⟨nm_ok y, trivial⟩, rfl, h⟩
        · rw [if_pos r3, if_neg r4, if_neg r4, if_neg r5, if_neg r5]
          exact ⟨⟨nm_ok y, trivial⟩, rfl, h⟩
      · rw [if_neg (fun q => c2 (a2.mp q)), if_pos (i1.mpr (by omega)), if_pos (i1.mpr (by omega))]
        exact ⟨trivial, rfl, h⟩
  · rw [if_neg c0, if_neg c0, if_neg c0]
    exact ⟨trivial, rfl, h⟩
