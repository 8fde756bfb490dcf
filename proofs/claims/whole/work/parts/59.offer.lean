/-! Power gone; an offer. -/
def lsS (p : mm_S) : mm_S := mm_setI (mm_setI (mm_setI (mm_setI (mm_setI p 3 (-1)) 4 0) 0 0) 1 (-1)) 2 0
theorem ls_e (p : mm_S) : e_lose p = (-106, lsS p) := by
  unfold e_lose e_dropOffer lsS
  rfl
theorem ls_R {p q : mm_S} (hA : RA p q) (hC : RC p q) (hM : RM p q) (hP : RP p q) (hL : LG p) (h3 : q.1 103 = -1) (h4 : q.1 104 = 0) (h5 : q.1 105 = 0) (h6 : q.1 106 = -1) : R (lsS p) q :=
  ⟨RA_c hA rfl rfl rfl rfl rfl rfl, RC_c hC rfl rfl rfl rfl rfl rfl rfl rfl, RM_c hM rfl rfl rfl rfl rfl rfl rfl rfl rfl rfl, RP_c hP rfl rfl rfl rfl rfl rfl, ⟨h3, h4, h5, h6, Or.inl rfl, (by decide : 0 ≤ (0 : Int32).toInt ∧ (0 : Int32).toInt ≤ 20), fun q => absurd (show (0 : Int32) = 0 from rfl) q, Or.inl rfl, Or.inl ⟨rfl, rfl⟩⟩, LG_cx hL rfl rfl rfl rfl rfl rfl rfl rfl⟩
theorem WW_L {x y p q : mm_S} {b : Int32} (h : WW x y p q b) (hL : LG x) (hf : ∀ j, j < 128 → p.2.2 1 j = x.2.2 1 j) : LG p := by
  obtain ⟨b1, b2, b3, b4, b5, b6, b7, b8, b9, b10, b11⟩ := h
  exact LG_c hL (fun j hj => by unfold gF; rw [hf j hj]) (b6 21 (by decide) (by decide) (by decide) (by decide)) (b6 22 (by decide) (by decide) (by decide) (by decide)) (b6 23 (by decide) (by decide) (by decide) (by decide)) (b6 24 (by decide) (by decide) (by decide) (by decide)) (b6 25 (by decide) (by decide) (by decide) (by decide)) (b6 26 (by decide) (by decide) (by decide) (by decide)) (b6 27 (by decide) (by decide) (by decide) (by decide))
theorem WW_R1 {x y p q : mm_S} (h : WW x y p q 1) (hV : RV x y) (hL : LG x) (hf : ∀ j, j < 128 → p.2.2 1 j = x.2.2 1 j) : R p q := by
  have hl := WW_L h hL hf
  obtain ⟨b1, b2, b3, b4, b5, b6, b7, b8, b9, b10, b11⟩ := h
  rcases b1 with ⟨-, -, k⟩ | ⟨q, -⟩
  · exact ⟨b2, b3, b4, b5, RV_c hV (b6 0 (by decide) (by decide) (by decide) (by decide)) (b6 1 (by decide) (by decide) (by decide) (by decide)) (b6 2 (by decide) (by decide) (by decide) (by decide)) (b6 3 (by decide) (by decide) (by decide) (by decide)) (b6 4 (by decide) (by decide) (by decide) (by decide)) (k 103 (by decide)) (k 104 (by decide)) (k 105 (by decide)) (k 106 (by decide)) (k 107 (by decide)) (b9 12 (by decide) (by decide)), hl⟩
  · exact absurd q (by decide)
theorem WW_R0 {x y p q : mm_S} (h : WW x y p q 0) (hL : LG x) (hf : ∀ j, j < 128 → p.2.2 1 j = x.2.2 1 j) : R (lsS p) q := by
  have hl := WW_L h hL hf
  obtain ⟨b1, b2, b3, b4, b5, b6, b7, b8, b9, b10, b11⟩ := h
  rcases b1 with ⟨q, -⟩ | ⟨-, -, k3, k4, k5, k6⟩
  · exact absurd q (by decide)
  · exact ls_R b2 b3 b4 b5 hl k3 k4 k5 k6
theorem AP_R1 {x y p q : mm_S} (h : AP x y p q 1) (hV : RV x y) : R p q := by
  obtain ⟨b1, b2, b3, b4, b5, hl, -, b6, b7, b9, b11⟩ := h
  rcases b1 with ⟨-, -, k⟩ | ⟨q, -⟩
  · exact ⟨b2, b3, b4, b5, RV_c hV (b6 0 (by decide)) (b6 1 (by decide)) (b6 2 (by decide)) (b6 3 (by decide)) (b6 4 (by decide)) (k 103 (by decide)) (k 104 (by decide)) (k 105 (by decide)) (k 106 (by decide)) (k 107 (by decide)) (b9 12 (by decide) (by decide) (by decide)), hl⟩
  · exact absurd q (by decide)
theorem AP_R0 {x y p q : mm_S} (h : AP x y p q 0) : R (lsS p) q := by
  obtain ⟨b1, b2, b3, b4, b5, hl, -, b6, b7, b9, b11⟩ := h
  rcases b1 with ⟨q, -⟩ | ⟨-, -, k3, k4, k5, k6⟩
  · exact absurd q (by decide)
  · exact ls_R b2 b3 b4 b5 hl k3 k4 k5 k6
/-- what runs: for nothing, for good, on trial -/
theorem rg_q {x y : mm_S} (hV : RV x y) : (x.1 3 = -1 ∧ e_runsForGood x = 0 ∧ y.1 103 = -1 ∧ e_m_isTrial y = 0) ∨ (¬ x.1 3 = -1 ∧ x.1 4 = 0 ∧ ¬ e_runsForGood x = 0 ∧ ¬ y.1 103 = -1 ∧ e_m_isTrial y = 0) ∨ (¬ x.1 3 = -1 ∧ ¬ x.1 4 = 0 ∧ e_runsForGood x = 0 ∧ ¬ y.1 103 = -1 ∧ ¬ e_m_isTrial y = 0) := by
  obtain ⟨h1, h2, h3, h4, h5, h6, h7, h8, h9⟩ := hV
  unfold e_runsForGood e_m_isTrial
  rw [h1, h2]
  by_cases c1 : x.1 3 = -1
  · left
    rw [if_pos c1, if_pos c1]
    exact ⟨c1, rfl, c1, rfl⟩
  · right
    rw [if_neg c1, if_neg c1]
    by_cases c2 : x.1 4 = 0
    · left
      rw [if_pos c2, if_pos (by rw [c2]; decide)]
      exact ⟨c1, c2, by decide, c1, rfl⟩
    · right
      have hle : ¬ x.1 4 ≤ 0 := by
        rw [le_l (k := 0) (by decide)]
        have : ¬ (x.1 4).toInt = 0 := fun q => c2 ((eq_l (by decide)).mpr q)
        omega
      rw [if_neg c2, if_neg hle]
      exact ⟨c1, c2, rfl, c1, by decide⟩
theorem in_b {g : Int32} (h1 : g < 2) (h2 : 0 ≤ g.toInt) : ∃ s, s < 2 ∧ g = nI s := by
  rw [lt_l (k := 2) (by decide)] at h1
  exact ⟨g.toInt.toNat, by omega, ni_of h2⟩
theorem ac_q {x y : mm_S} {a : Nat} (hA : RA x y) (hL : LG x) (hn : nw (gF x) = some a) : ∃ s, s < 2 ∧ x.1 23 = nI s ∧ e_m_activeSlot y = nI s ∧ ok_m_activeSlot y := by
  obtain ⟨g1, g2, g3⟩ := nw_b hn
  obtain ⟨l1, l2, l3⟩ := hL
  have m2 := (l3 a hn).2.1
  obtain ⟨s, hs, e⟩ := in_b (wh_e g2).2.2.1 (gF_b x 0 4096 (a + 4) (by omega) (by omega)).1
  have en : e_m_newest y = nI a := by
    rw [nm, R_nw hA, hn]
    rfl
  refine ⟨s, hs, m2.trans e, ?_, ?_⟩
  · unfold e_m_activeSlot
    rw [en, show nI a + 4 = nI (a + 4) from nI_add a 4, pu_clamp (by omega), hA.1 _ (by omega)]
    exact e
  · unfold ok_m_activeSlot
    rw [en, show nI a + 4 = nI (a + 4) from nI_add a 4]
    exact ⟨nm_ok y, nI_in (by omega) (by decide), trivial⟩
theorem ot_q {s : Nat} (hs : s < 2) (x y : mm_S) : e_other (nI s) x = nI (1 - s) ∧ e_m_otherOf (nI s) y = nI (1 - s) := by
  have : s = 0 ∨ s = 1 := by omega
  unfold e_other e_m_otherOf
  rcases this with h | h <;> subst h <;> decide
theorem hd_d {s : Nat} (hs : s < 2) : nI (hd s) / 64 = nI (2 + 31 * s) := by
  have : s = 0 ∨ s = 1 := by omega
  rcases this with h | h <;> subst h <;> decide
theorem mo_120 (k : Nat) (u2 u3 : Int32) (x : mm_S) : l_m_offer_120 (k + 1) u2 u3 x = if nI 64 ≤ u3 then (u2, mm_setI (mm_setI x 106 u2) 107 0) else l_m_offer_120 k u2 (u3 + 1) (mm_setA x 12 (upd (x.2.2 12) (Int32.toNatClampNeg u3) (x.2.2 11 (Int32.toNatClampNeg u3)))) := rfl
theorem oo_120 (k : Nat) (u2 u3 : Int32) (x : mm_S) : okl_m_offer_120 (k + 1) u2 u3 x = if nI 64 ≤ u3 then True else (vp_in u3 64 ∧ vp_in u3 64 ∧ okl_m_offer_120 k u2 (u3 + 1) (mm_setA x 12 (upd (x.2.2 12) (Int32.toNatClampNeg u3) (x.2.2 11 (Int32.toNatClampNeg u3))))) := rfl
theorem mo_l2 (u2 : Int32) (x : mm_S) : l_m_offer_120 (mm_fu 0 64) u2 0 x = (u2, mm_setI (mm_setI (mm_setA x 12 (wr (x.2.2 12) 0 64 (x.2.2 11))) 106 u2) 107 0) :=
  wr_loop0 (fun k i x => l_m_offer_120 k u2 (nI i) x) (fun x => (u2, mm_setI (mm_setI x 106 u2) 107 0)) 12 0 64 (fun x => x.2.2 11) (fun k x => by
    rw [mo_120, if_pos (le_t (Nat.le_refl 64) (by decide))]) (fun k i x h => by
    rw [mo_120, if_neg (le_f h (by decide)), nI_1, pu_clamp (by omega), Nat.zero_add]) (fun x i v t h1 h2 => by
    rw [gAn (by decide)]) (mm_fu 0 64) x (by decide)
theorem oo_l2 (u2 : Int32) (x : mm_S) : okl_m_offer_120 (mm_fu 0 64) u2 0 x :=
  ok_loop (fun k i x => okl_m_offer_120 k u2 (nI i) x) 64 (fun k x => by
    rw [oo_120, if_pos (le_t (Nat.le_refl 64) (by decide))]
    trivial) (fun k i x h ih => by
    rw [oo_120, if_neg (le_f h (by decide)), nI_1]
    exact ⟨nI_in h (by decide), nI_in h (by decide), ih _⟩) (mm_fu 0 64) 0 x (by decide) (by decide)
/-- the tape copied to the sheet -/
def ST (x : mm_S) : mm_S := mm_setA (mm_setI x 0 0) 3 (wr (x.2.2 3) 0 64 (fun t => bt (x.2.2 0 t &&& 255)))
theorem ST_r (x : mm_S) : e_copySector 64 0 0 64 3 0 (mm_setI x 0 0) = ST x := by
  have e := cs_l (n0 := 64) (r0 := 0) (n2 := 64) (r2 := 3) (a := 0) (c := 0) (by decide) (by decide) (by decide) (by decide) (by decide) (mm_setI x 0 0)
  simp only [Nat.zero_add] at e
  exact e
theorem ST_g (x : mm_S) {j : Nat} (hj : j < 64) : g3 (ST x) j = x.2.2 0 j &&& 255 := by
  unfold g3 ST
  rw [gAs, wr_in (by omega) (by omega), bt_255, pu_and, Nat.sub_zero]
theorem ST_R {x y : mm_S} (h : R x y) : R (ST x) (mm_setI y 105 0) := by
  obtain ⟨hA, hC, hM, hP, ⟨h1, h2, h3, h4, h5, h6, h7, h8, h9⟩, hL⟩ := h
  exact ⟨RA_c hA rfl rfl rfl rfl rfl rfl, RC_c hC rfl rfl rfl rfl rfl rfl rfl rfl, RM_c hM rfl rfl rfl rfl rfl rfl rfl rfl rfl rfl, RP_c hP rfl rfl rfl rfl rfl rfl, ⟨h1, h2, rfl, h4, h5, h6, h7, Or.inl rfl, RO_c h9 rfl rfl rfl rfl⟩, LG_cx hL rfl rfl rfl rfl rfl rfl rfl rfl⟩
/-- the sheet copied to what is offered -/
def SO (p : mm_S) (u : Int32) : mm_S := mm_setI (mm_setA p 4 (wr (p.2.2 4) 0 64 (fun t => bt (p.2.2 3 t &&& 255)))) 1 u
theorem SO_r (p : mm_S) (u : Int32) : mm_setI (e_copySector 64 3 0 64 4 0 p) 1 u = SO p u := by
  have e := cs_l (n0 := 64) (r0 := 3) (n2 := 64) (r2 := 4) (a := 0) (c := 0) (by decide) (by decide) (by decide) (by decide) (by decide) p
  simp only [Nat.zero_add] at e
  unfold SO
  rw [← e]
  rfl
theorem n4 {a b : Nat} {x : mm_S} (h : a + b ≤ 64) : e_numberAt 64 4 (nI a) (nI b) x = rdn (fun j => x.2.2 4 j &&& 255) a b 0 := re_numb h (by decide)
theorem ho_s (x : mm_S) : e_ho_size x = (rdn (fun j => x.2.2 4 j &&& 255) 8 4 0).toInt32 := congrArg Int64.toInt32 (n4 (a := 8) (b := 4) (by decide))
theorem sz_t {p : Int64} (h0 : 1 ≤ p.toInt) (h1 : p.toInt ≤ 30) : p.toInt32.toInt = p.toInt := by
  rw [pu_32, mm_bm (by omega) (by omega)]
theorem q_offer {x y : mm_S} (h : R x y) : Q (ok_m_offer y) (e_offer x) (e_m_offer y) := by
  have h' := h
  obtain ⟨hA, hC, hM, hP, hV, hL⟩ := h'
  unfold ok_m_offer e_offer e_m_offer
  rw [hP.1]
  by_cases c0 : x.1 12 = 0
  · rw [if_pos c0, if_pos c0, if_pos c0]
    rcases rg_q hV with ⟨r1, r2, r3, r4⟩ | ⟨r1, r2, r3, r4, r5⟩ | ⟨r1, r2, r3, r4, r5⟩
    · rw [if_pos r2, if_pos r3, if_pos r3]
      exact ⟨trivial, rfl, h⟩
    · rw [if_neg r3, if_neg r4, if_neg r4, if_pos r5, if_pos r5, R_nm hA hL]
      cases hn : nw (gF x) with
      | none =>
        have e : x.1 21 = -1 := by
          rw [hL.1, hn]
          rfl
        rw [if_pos e, if_pos e, if_pos e]
        exact ⟨⟨nm_ok y, trivial⟩, rfl, h⟩
      | some a =>
        obtain ⟨g1, g2, g3'⟩ := nw_b hn
        have e : x.1 21 = nI a := by
          rw [hL.1, hn]
          rfl
        have ne : ¬ x.1 21 = -1 := by
          rw [e]
          exact ni_m a (by omega)
        rw [if_neg ne, if_neg ne, if_neg ne, hV.2.2.1]
        by_cases c1 : x.1 0 = 64
        · rw [if_pos c1, if_pos c1, if_pos c1]
          dsimp only
          rw [ST_r]
          have hR4 := ST_R h
          have n4' : nw (gF (ST x)) = some a := hn
          have x12 : (ST x).1 12 = 0 := c0
          have hg : ∀ j, j < 64 → (mm_setI y 105 0).2.2 11 (0 + j) = g3 (ST x) j := fun j hj => by
            rw [ST_g x hj, Nat.zero_add]
            exact hA.2.1 j hj
          have hg2 : ∀ k b, k + b ≤ 64 → rdn ((mm_setI y 105 0).2.2 11) k b 0 = rdn (g3 (ST x)) k b 0 := fun k b hk => rdn_congr b k 0 (fun j h1 h2 => by
            have := hg j (by omega)
            rw [Nat.zero_add] at this
            exact this)
          have hir := ir_c (ST x)
          have hiq : e_isRight (ST x) = e_m_isRight 64 11 0 (mm_setI y 105 0) := ir_q (x := ST x) (y := mm_setI y 105 0) (n := 64) (r := 11) (h := 0) (by decide) (by decide) hg hR4.2.2.1.2.2.2.2.1 (R_rv hR4.1 hR4.2.2.2.2.2)
          have hok : ok_m_isRight 64 11 0 (mm_setI y 105 0) := ir_ok (n := 64) (r := 11) (h := 0) (by decide) (by decide)
          have ev : e_m_read 64 11 4 4 (mm_setI y 105 0) = rdn (g3 (ST x)) 4 4 0 := (re_read (a := 4) (b := 4) (by decide)).trans (hg2 4 4 (by decide))
          have ov : ok_m_read 64 11 4 4 (mm_setI y 105 0) := ok_rd (a := 4) (b := 4) (by decide) (by decide)
          have hbl := bl_q (x := ST x) (rd4 (g := g3 (ST x)) (a := 4) (g3_b _ _ _)) (R_ct hR4.1 hR4.2.2.2.2.2)
          obtain ⟨s, hs, s1, s2, s3⟩ := ac_q hR4.1 hR4.2.2.2.2.2 n4'
          obtain ⟨t1, t2⟩ := ot_q hs (ST x) (mm_setI y 105 0)
          have hs' : 1 - s < 2 := by omega
          have hl := hd_l hs'
          have hsz8 : (rdn ((mm_setI y 105 0).2.2 11) 8 4 0) = rdn (g3 (ST x)) 8 4 0 := hg2 8 4 (by decide)
          have g11 : ∀ j, j < 64 → y.2.2 11 j = g3 (ST x) j := fun j hj => by
            have := hg j hj
            rw [Nat.zero_add] at this
            exact this
          rw [← hiq, ev, ct_m, s1, s2, t1, t2, hd_h hs', hd_d hs', hd_c hs', s3_v]
          generalize mm_setI y 105 0 = y2 at *
          generalize hXe : ST x = X at *
          by_cases c2 : e_isRight X = 0
          · rw [if_pos c2, if_pos c2, if_pos c2]
            exact ⟨⟨nm_ok y, hok, trivial⟩, rfl, hR4⟩
          · rw [if_neg c2, if_neg c2, if_neg c2]
            have hRT := Classical.byContradiction (fun q => c2 ((D_z hir).mpr q))
            have h8 := hRT.2.1
            by_cases c3 : (rdn (g3 X) 4 4 0).toInt < (ctY y2).toInt
            · have hcm : ¬ (0 : Int32) ≤ lg_cmp (rdn (g3 X) 4 4 0) (ctY y2) := fun q => by
                have := pu_cmp_ge.mp q
                omega
              rw [if_neg (fun q => (D_z hbl).mp q c3), if_neg hcm, if_neg hcm]
              exact ⟨⟨nm_ok y, hok, ov, ct_ok y2, trivial⟩, rfl, hR4⟩
            · have hcm : (0 : Int32) ≤ lg_cmp (rdn (g3 X) 4 4 0) (ctY y2) := pu_cmp_ge.mpr (by omega)
              rw [if_pos ((D_z hbl).mpr c3), if_pos hcm, if_pos hcm]
              obtain ⟨b, p, q, k1, k2, k3, k4, k5⟩ := er_q (x := X) (y := y2) (s := 2 + 31 * (1 - s)) hR4.1 hR4.2.1 hR4.2.2.1 hR4.2.2.2.1 x12 (by omega)
              have hf : ∀ j, j < 128 → p.2.2 1 j = X.2.2 1 j := fun j hj => k5 j (by omega)
              rw [k1, k2]
              dsimp only
              rcases k4.1 with ⟨hb, hp12, kk⟩ | ⟨hb, -⟩
              · subst hb
                rw [if_neg n10, if_neg n10, if_neg n10, SO_r, mo_l2]
                have hR1 := WW_R1 k4 hR4.2.2.2.2.1 hR4.2.2.2.2.2 hf
                refine ⟨⟨nm_ok y, hok, ov, ct_ok y2, s3, k3, oo_l2 _ _⟩, rfl, ?_⟩
                have p3 : p.2.2 3 = X.2.2 3 := k4.2.2.2.2.2.2.1 3 (by decide)
                have q11 : q.2.2 11 = y2.2.2 11 := k4.2.2.2.2.2.2.2.2.1 11 (by decide) (by decide)
                have c4 : ∀ j, j < 64 → (SO p (nI (1 - s))).2.2 4 j &&& 255 = g3 X j := fun j hj => by
                  show wr (p.2.2 4) 0 64 (fun t => bt (p.2.2 3 t &&& 255)) j &&& 255 = _
                  rw [wr_in (by omega) (by omega), bt_255, pu_and, Nat.sub_zero, p3]
                  rfl
                have m4 : ∀ j, j < 64 → wr (q.2.2 12) 0 64 (q.2.2 11) j = g3 X j := fun j hj => by
                  rw [wr_in (by omega) (by omega), Nat.sub_zero, q11]
                  have := hg j hj
                  rw [Nat.zero_add] at this
                  exact this
                have z1 : e_ho_size (SO p (nI (1 - s))) = (rdn (g3 X) 8 4 0).toInt32 := by
                  rw [ho_s, rdn_congr (h := g3 X) 4 8 0 (fun j j1 j2 => c4 j (by omega))]
                have z2 : (rdn (wr (q.2.2 12) 0 64 (q.2.2 11)) 8 4 0).toInt = (rdn (g3 X) 8 4 0).toInt := by
                  rw [rdn_congr (h := g3 X) 4 8 0 (fun j j1 j2 => m4 j (by omega))]
                rw [z1]
                obtain ⟨aA, aC, aM, aP, ⟨v1, v2, v3, v4, v5, v6, v7, v8, v9⟩, aL⟩ := hR1
                refine ⟨⟨aA.1, aA.2.1, fun j hj => ?_⟩, RC_c aC rfl rfl rfl rfl rfl rfl rfl rfl, RM_c aM rfl rfl rfl rfl rfl rfl rfl rfl rfl rfl, RP_c aP rfl rfl rfl rfl rfl rfl, ⟨v1, v2, v3, rfl, v5, v6, v7, v8, Or.inr ⟨?_, ?_⟩⟩, LG_cx aL rfl rfl rfl rfl rfl rfl rfl rfl⟩
                · show wr (q.2.2 12) 0 64 (q.2.2 11) j = (SO p (nI (1 - s))).2.2 4 j &&& 255
                  rw [c4 j hj, m4 j hj]
                · show nI (1 - s) = 0 ∨ nI (1 - s) = 1
                  have : s = 0 ∨ s = 1 := by omega
                  rcases this with q | q <;> subst q
                  · exact Or.inr (by decide)
                  · exact Or.inl (by decide)
                · show 0 ≤ (0 : Int32).toInt ∧ (0 : Int32).toInt ≤ (rdn (wr (q.2.2 12) 0 64 (q.2.2 11)) 8 4 0).toInt ∧ 1 ≤ (rdn (wr (q.2.2 12) 0 64 (q.2.2 11)) 8 4 0).toInt ∧ (rdn (wr (q.2.2 12) 0 64 (q.2.2 11)) 8 4 0).toInt ≤ 30 ∧ ((rdn (g3 X) 8 4 0).toInt32).toInt = (rdn (wr (q.2.2 12) 0 64 (q.2.2 11)) 8 4 0).toInt - (0 : Int32).toInt
                  rw [z2, sz_t h8.1 h8.2, show (0 : Int32).toInt = 0 by decide]
                  omega
              · subst hb
                rw [if_pos rfl, if_pos rfl, if_pos rfl, ls_e]
                exact ⟨⟨nm_ok y, hok, ov, ct_ok y2, s3, k3, trivial⟩, rfl, WW_R0 k4 hR4.2.2.2.2.2 hf⟩
        · rw [if_neg c1, if_neg c1, if_neg c1]
          dsimp only
          rw [ST_r]
          exact ⟨⟨nm_ok y, trivial⟩, rfl, ST_R h⟩
    · rw [if_pos r3, if_neg r4, if_neg r4, if_neg r5, if_neg r5]
      exact ⟨trivial, rfl, h⟩
  · rw [if_neg c0, if_neg c0, if_neg c0]
    exact ⟨trivial, rfl, h⟩
