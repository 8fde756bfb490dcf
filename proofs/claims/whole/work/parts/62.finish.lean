/-! The end of an offer. -/
def fE (u1 : Int32) (x : mm_S) : Int32 × mm_S :=
      let q3 := e_m_appended (-2 : Int32) u1 (3 : Int32) (-2 : Int32) (-2 : Int64) x
      if q3.1 = (0 : Int32) then
        ((-106 : Int32), q3.2)
      else
        let x4 := mm_setI q3.2 106 (-1 : Int32)
        let x5 := mm_setA x4 13 (upd (x4.2.2 13) (Int32.toNatClampNeg (6 : Int32)) ((x4.2.2 13 (Int32.toNatClampNeg (6 : Int32))) + (1 : Int32)))
        (u1, x5)
def fO (u1 : Int32) (x : mm_S) : Prop := ((ok_m_appended (-2 : Int32) u1 (3 : Int32) (-2 : Int32) (-2 : Int64) x) ∧ (let q3 := e_m_appended (-2 : Int32) u1 (3 : Int32) (-2 : Int32) (-2 : Int64) x; if q3.1 = (0 : Int32) then (True) else (let x4 := mm_setI q3.2 106 (-1 : Int32); (vp_in (6 : Int32) 7) ∧ ((vp_in (6 : Int32) 7) ∧ (let x5 := mm_setA x4 13 (upd (x4.2.2 13) (Int32.toNatClampNeg (6 : Int32)) ((x4.2.2 13 (Int32.toNatClampNeg (6 : Int32))) + (1 : Int32))); True)))))
theorem mf_s {k : Nat} {u1 u2 : Int32} {y q : mm_S} {b : Int32} (h : e_m_programmed ((e_m_headOf u1 y) + u2) 64 12 u2 y = (b, q)) : l_m_finish_77 (k + 1) u1 u2 y = if (64 : Int32) ≤ u2 then fE u1 y else if b = 0 then (-106, q) else l_m_finish_77 k u1 (u2 + 16) q := by
  rw [l_m_finish_77]
  unfold fE
  dsimp only
  rw [h]
theorem mf_e {k : Nat} {u1 : Int32} {y : mm_S} : l_m_finish_77 (k + 1) u1 (nI 64) y = fE u1 y := by
  rw [l_m_finish_77, if_pos (by decide)]
  unfold fE
  rfl
theorem of_s {k : Nat} {u1 u2 : Int32} {y q : mm_S} {b : Int32} (h : e_m_programmed ((e_m_headOf u1 y) + u2) 64 12 u2 y = (b, q)) (hu : ¬ (64 : Int32) ≤ u2) (h1 : ok_m_programmed ((e_m_headOf u1 y) + u2) 64 12 u2 y) (h2 : ¬ b = 0 → okl_m_finish_77 k u1 (u2 + 16) q) : okl_m_finish_77 (k + 1) u1 u2 y := by
  rw [okl_m_finish_77, if_neg hu]
  dsimp only
  rw [h]
  refine ⟨h1, ?_⟩
  dsimp only
  by_cases c : b = 0
  · rw [if_pos c]
    trivial
  · rw [if_neg c]
    exact h2 c
theorem of_e {k : Nat} {u1 : Int32} {y : mm_S} (h : fO u1 y) : okl_m_finish_77 (k + 1) u1 (nI 64) y := by
  rw [okl_m_finish_77, if_pos (by decide)]
  exact h
theorem pf_q {s : Nat} (hs : s < 2) {x y : mm_S} (hA : RA x y) (hC : RC x y) (hM : RM x y) (hP : RP x y) (h12 : x.1 12 = 0) : ∃ (b : Int32) (p q : mm_S), e_psector (nI (2 + 31 * s)) 64 4 x = (b, p) ∧ (l_m_finish_77 (mm_fu 0 64) (nI s) 0 y = if b = 0 then (-106, q) else fE (nI s) q) ∧ ((¬ b = 0 → fO (nI s) q) → okl_m_finish_77 (mm_fu 0 64) (nI s) 0 y) ∧ WW x y p q b ∧ ∀ j, j < hd s ∨ hd s + 64 ≤ j → p.2.2 1 j = x.2.2 1 j := by
  have a16 : ∀ i, nI (16 * i) + 16 = nI (16 * (i + 1)) := fun i => nI_add (16 * i) 16
  have hh : ∀ (y : mm_S) i, e_m_headOf (nI s) y + nI (16 * i) = nI (64 * (2 + 31 * s) + 16 * i) := fun y i => by
    rw [hd_h hs]
    exact nI_add _ _
  have h := ps_q (sc := 2 + 31 * s) (rc := 4) (rm := 12) (by omega) (by decide) (by decide) (by decide) (fun k i y => l_m_finish_77 k (nI s) (nI (16 * i)) y) (fun k i y => okl_m_finish_77 k (nI s) (nI (16 * i)) y) (fE (nI s)) (fO (nI s)) (fun k y => mf_e) (fun k i y b q hi hq => by
    rw [mf_s (b := b) (q := q) ((congrArg (fun u => e_m_programmed u 64 12 (nI (16 * i)) y) (hh y i)).trans hq), if_neg (show ¬ (64 : Int32) ≤ nI (16 * i) from le_f (n := 64) (by omega) (by decide)), a16]) (fun k y h => of_e h) (fun k i y b q hi hq h1 h2 => of_s (b := b) (q := q) ((congrArg (fun u => e_m_programmed u 64 12 (nI (16 * i)) y) (hh y i)).trans hq) (le_f (n := 64) (by omega) (by decide)) (by rw [hh]; exact h1) (fun c => by rw [a16]; exact h2 c)) 4 0 (mm_fu 0 4) (mm_fu 0 64) x y rfl (by decide) (by decide) hA hC hM hP h12 hA.2.2
  unfold e_psector
  exact h
theorem ho_v (x : mm_S) : e_ho_version x = (rdn (fun j => x.2.2 4 j &&& 255) 4 4 0).toInt32 := congrArg Int64.toInt32 (n4 (a := 4) (b := 4) (by decide))
theorem ho_b (x : mm_S) : e_ho_bdigest x = rdn (fun j => x.2.2 4 j &&& 255) 20 8 0 := n4 (a := 20) (b := 8) (by decide)
def drS (x : mm_S) : mm_S := mm_setI (mm_setI x 1 (-1)) 2 0
theorem dr_e (x : mm_S) : e_dropOffer x = drS x := by
  unfold e_dropOffer drS
  rfl
theorem dr_R {x y : mm_S} (h : R x y) : R (drS x) (mm_setI y 106 (-1)) := by
  obtain ⟨hA, hC, hM, hP, ⟨v1, v2, v3, v4, v5, v6, v7, v8, v9⟩, hL⟩ := h
  exact ⟨RA_c hA rfl rfl rfl rfl rfl rfl, RC_c hC rfl rfl rfl rfl rfl rfl rfl rfl, RM_c hM rfl rfl rfl rfl rfl rfl rfl rfl rfl rfl, RP_c hP rfl rfl rfl rfl rfl rfl, ⟨v1, v2, v3, rfl, v5, v6, v7, v8, Or.inl ⟨rfl, rfl⟩⟩, LG_cx hL rfl rfl rfl rfl rfl rfl rfl rfl⟩
theorem R_6 {x y : mm_S} (h : R x y) : R (mm_setI x 8 (x.1 8 + 1)) (cY y 6) := by
  obtain ⟨hA, ⟨h1, h2, h3, h4, h5, h6, h7⟩, hM, hP, hV, hL⟩ := h
  exact ⟨RA_c hA rfl rfl rfl rfl rfl rfl, ⟨h1, h2, h3, h4, h5, h6, (by show y.2.2 13 6 + 1 = x.1 8 + 1; rw [h7])⟩, RM_c hM rfl rfl rfl rfl rfl rfl rfl rfl rfl rfl, RP_c hP rfl rfl rfl rfl rfl rfl, RV_c hV rfl rfl rfl rfl rfl rfl rfl rfl rfl rfl rfl, LG_cx hL rfl rfl rfl rfl rfl rfl rfl rfl⟩
theorem R_4 {x y : mm_S} (h : R x y) : R (mm_setI x 6 (x.1 6 + 1)) (cY y 4) := by
  obtain ⟨hA, ⟨h1, h2, h3, h4, h5, h6, h7⟩, hM, hP, hV, hL⟩ := h
  exact ⟨RA_c hA rfl rfl rfl rfl rfl rfl, ⟨h1, h2, h3, h4, (by show y.2.2 13 4 + 1 = x.1 6 + 1; rw [h5]), h6, h7⟩, RM_c hM rfl rfl rfl rfl rfl rfl rfl rfl rfl rfl, RP_c hP rfl rfl rfl rfl rfl rfl, RV_c hV rfl rfl rfl rfl rfl rfl rfl rfl rfl rfl rfl, LG_cx hL rfl rfl rfl rfl rfl rfl rfl rfl⟩
theorem R_3 {x y : mm_S} (h : R x y) : R (mm_setI x 5 (x.1 5 + 1)) (cY y 3) := by
  obtain ⟨hA, ⟨h1, h2, h3, h4, h5, h6, h7⟩, hM, hP, hV, hL⟩ := h
  exact ⟨RA_c hA rfl rfl rfl rfl rfl rfl, ⟨h1, h2, h3, (by show y.2.2 13 3 + 1 = x.1 5 + 1; rw [h4]), h5, h6, h7⟩, RM_c hM rfl rfl rfl rfl rfl rfl rfl rfl rfl rfl, RP_c hP rfl rfl rfl rfl rfl rfl, RV_c hV rfl rfl rfl rfl rfl rfl rfl rfl rfl rfl rfl, LG_cx hL rfl rfl rfl rfl rfl rfl rfl rfl⟩
theorem R_5 {x y : mm_S} (h : R x y) : R (mm_setI x 7 (x.1 7 + 1)) (cY y 5) := by
  obtain ⟨hA, ⟨h1, h2, h3, h4, h5, h6, h7⟩, hM, hP, hV, hL⟩ := h
  exact ⟨RA_c hA rfl rfl rfl rfl rfl rfl, ⟨h1, h2, h3, h4, h5, (by show y.2.2 13 5 + 1 = x.1 7 + 1; rw [h6]), h7⟩, RM_c hM rfl rfl rfl rfl rfl rfl rfl rfl rfl rfl, RP_c hP rfl rfl rfl rfl rfl rfl, RV_c hV rfl rfl rfl rfl rfl rfl rfl rfl rfl rfl rfl, LG_cx hL rfl rfl rfl rfl rfl rfl rfl rfl⟩
theorem q_finish {x y : mm_S} (h : R x y) : Q (ok_m_finish y) (e_finish x) (e_m_finish y) := by
  have h' := h
  obtain ⟨hA, hC, hM, hP, hV, hL⟩ := h'
  obtain ⟨w1, w2⟩ := RO_a hV
  obtain ⟨v1, v2, v3, v4, v5, v6, v7, v8, v9⟩ := id hV
  unfold ok_m_finish e_finish e_m_finish
  rw [hP.1]
  by_cases c0 : x.1 12 = 0
  · rw [if_pos c0, if_pos c0, if_pos c0, v4]
    rcases v9 with ⟨z1, z2⟩ | ⟨z1, z2, z3, z4, z5, z6⟩
    · rw [if_pos z1, if_pos z1, if_pos z1]
      exact ⟨trivial, rfl, h⟩
    · obtain ⟨s, hs, es⟩ : ∃ s, s < 2 ∧ x.1 1 = nI s := by
        rcases z1 with q | q
        · exact ⟨0, by decide, q⟩
        · exact ⟨1, by decide, q⟩
      have ne : ¬ x.1 1 = -1 := by
        rw [es]
        exact ni_m s (by omega)
      rw [if_neg ne, if_neg ne, if_neg ne, ← w1]
      by_cases c1 : 0 < x.1 2
      · rw [if_pos c1, if_pos c1, if_pos c1]
        exact ⟨⟨w2, trivial⟩, rfl, h⟩
      · rw [if_neg c1, if_neg c1, if_neg c1, R_nm hA hL]
        cases hn : nw (gF x) with
        | none =>
          have e : x.1 21 = -1 := by
            rw [hL.1, hn]
            rfl
          rw [if_pos e, if_pos e, if_pos e]
          exact ⟨⟨w2, nm_ok y, trivial⟩, rfl, h⟩
        | some a =>
          obtain ⟨g1, g2, g3'⟩ := nw_b hn
          have e : x.1 21 = nI a := by
            rw [hL.1, hn]
            rfl
          have ne : ¬ x.1 21 = -1 := by
            rw [e]
            exact ni_m a (by omega)
          rw [if_neg ne, if_neg ne, if_neg ne, es]
          dsimp only
          have hl := hd_l hs
          have rq : ∀ k b, k + b ≤ 64 → rdn (y.2.2 12) k b 0 = rdn (fun j => x.2.2 4 j &&& 255) k b 0 := fun k b hk => rdn_congr b k 0 (fun j h1 h2 => hA.2.2 j (by omega))
          have r4 := rd4 (g := fun j => x.2.2 4 j &&& 255) (a := 4) (byt_255 _ _ _)
          have hsz : 1 ≤ (rdn (fun j => x.2.2 4 j &&& 255) 8 4 0).toInt ∧ (rdn (fun j => x.2.2 4 j &&& 255) 8 4 0).toInt ≤ 30 := by
            rw [← rq 8 4 (by decide)]
            exact ⟨z4, z5⟩
          have hsz' : 1 ≤ (rdn (y.2.2 12) (0 + 8) 4 0).toInt ∧ (rdn (y.2.2 12) (0 + 8) 4 0).toInt ≤ 30 := ⟨z4, z5⟩
          have eb : e_bdigest (nI s) (e_ho_version x) (e_ho_size x) x = e_m_bodyOf (nI s) 64 12 0 y := by
            rw [ho_v, ho_s, bd_c hs r4 hsz]
            have m := bd_m (s := s) (n := 64) (r := 12) (h := 0) (y := y) hs (by decide) (by decide) hsz'
            rw [show (0 : Int32) = nI 0 from rfl, m, rq _ _ (by decide), rq _ _ (by decide)]
            exact (dgs_congr (g := y.2.2 10) (h := gF x) _ _ _ (fun j h1 h2 => hA.1 j (by omega))).symm
          have ob := bo (s := s) (n := 64) (r := 12) (h := 0) (y := y) hs (by decide) (by decide) hsz'
          have e20 : e_m_read 64 12 20 8 y = e_ho_bdigest x := by
            rw [ho_b, ← rq 20 8 (by decide)]
            exact re_read (a := 20) (b := 8) (by decide)
          have o20 : ok_m_read 64 12 20 8 y := ok_rd (a := 20) (b := 8) (by decide) (by decide)
          rw [eb, e20, hd_c hs]
          by_cases c2 : lg_cmp (e_m_bodyOf (nI s) 64 12 0 y) (e_ho_bdigest x) = 0
          · rw [if_pos c2, if_pos c2, if_pos c2]
            obtain ⟨b, p, q, k1, k2, k3, k4, k5⟩ := pf_q hs hA hC hM hP c0
            have hf : ∀ j, j < 128 → p.2.2 1 j = x.2.2 1 j := fun j hj => k5 j (by omega)
            rw [k1, k2]
            dsimp only
            rcases k4.1 with ⟨hb, hp12, kk⟩ | ⟨hb, -⟩
            · subst hb
              rw [if_neg n10, if_neg n10]
              have hR1 := WW_R1 k4 hV hL hf
              have hn1 : nw (gF p) = some a := by
                rw [← hn]
                exact nw_congr (fun j hj => by unfold gF; rw [hf j hj])
              have hs2 : ¬ nI s = -2 ∧ ¬ nI s = -1 ∧ nI s = nI s &&& 255 := by
                have : s = 0 ∨ s = 1 := by omega
                rcases this with q | q <;> subst q <;> decide
              obtain ⟨b', p', q', l1, l2, l3, l4⟩ := app_T (x := p) (y := q) (t0 := nI s) (r0 := 3) (t1 := nI s) (r1 := 3) hR1 hp12 hn1 (by rw [if_neg hs2.1, if_neg hs2.2.1]; exact hs2.2.2) (by rw [if_neg (by decide)]; rfl)
              have hfO : fO (nI s) q := by
                unfold fO
                dsimp only
                rw [l2]
                refine ⟨l3, ?_⟩
                by_cases c : b' = 0
                · rw [if_pos c]
                  trivial
                · rw [if_neg c]
                  exact ⟨vi 6 7 (by decide) (by decide), vi 6 7 (by decide) (by decide), trivial⟩
              have o3 := k3 (fun _ => hfO)
              unfold fE
              dsimp only
              rw [l1, l2]
              dsimp only
              rcases l4.1 with ⟨hb, hp12', kk'⟩ | ⟨hb, -⟩
              · subst hb
                rw [if_neg n10, if_neg n10, dr_e]
                have hR2 := AP_R1 l4 hR1.2.2.2.2.1
                exact ⟨⟨w2, nm_ok y, ob, o20, o3⟩, rfl, R_6 (dr_R hR2)⟩
              · subst hb
                rw [if_pos rfl, if_pos rfl, ls_e]
                exact ⟨⟨w2, nm_ok y, ob, o20, o3⟩, rfl, AP_R0 l4⟩
            · subst hb
              have o3 := k3 (fun c => absurd rfl c)
              rw [if_pos rfl, if_pos rfl, ls_e]
              exact ⟨⟨w2, nm_ok y, ob, o20, o3⟩, rfl, WW_R0 k4 hL hf⟩
          · rw [if_neg c2, if_neg c2, if_neg c2, dr_e]
            exact ⟨⟨w2, nm_ok y, ob, o20, trivial⟩, rfl, dr_R h⟩
  · rw [if_neg c0, if_neg c0, if_neg c0]
    exact ⟨trivial, rfl, h⟩
