/-! A boot. -/
def BQ (ok : Prop) (p q : Int32 × mm_S) : Prop := ok ∧ p.1 = (if q.1 = 0 then -106 else q.2.1 103) ∧ R p.2 q.2 ∧ (q.1 = 0 ∨ (q.1 = 1 ∧ p.2.1 12 = 0))
/-- nothing runs -/
def NR (x : mm_S) : Prop := x.1 3 = -1 ∧ x.1 4 = 0
theorem R_run {x y : mm_S} {s : Nat} (h : R x y) (hs : s < 2) : R (mm_setI x 3 (nI s)) (mm_setI y 103 (nI s)) := by
  obtain ⟨hA, hC, hM, hP, ⟨v1, v2, v3, v4, v5, v6, v7, v8, v9⟩, hL⟩ := h
  refine ⟨RA_c hA rfl rfl rfl rfl rfl rfl, RC_c hC rfl rfl rfl rfl rfl rfl rfl rfl, RM_c hM rfl rfl rfl rfl rfl rfl rfl rfl rfl rfl, RP_c hP rfl rfl rfl rfl rfl rfl, ⟨rfl, v2, v3, v4, ?_, v6, fun _ => ?_, v8, RO_c v9 rfl rfl rfl rfl⟩, LG_cx hL rfl rfl rfl rfl rfl rfl rfl rfl⟩
  · show nI s = -1 ∨ nI s = 0 ∨ nI s = 1
    have : s = 0 ∨ s = 1 := by omega
    rcases this with q | q <;> subst q
    · exact Or.inr (Or.inl rfl)
    · exact Or.inr (Or.inr rfl)
  · exact ni_m s (by omega)
theorem R_tick {x y : mm_S} {s : Nat} (h : R x y) (hs : s < 2) : R (mm_setI (mm_setI x 3 (nI s)) 4 20) (mm_setI (mm_setI y 103 (nI s)) 104 20) := by
  obtain ⟨hA, hC, hM, hP, ⟨v1, v2, v3, v4, v5, v6, v7, v8, v9⟩, hL⟩ := R_run h hs
  refine ⟨RA_c hA rfl rfl rfl rfl rfl rfl, RC_c hC rfl rfl rfl rfl rfl rfl rfl rfl, RM_c hM rfl rfl rfl rfl rfl rfl rfl rfl rfl rfl, RP_c hP rfl rfl rfl rfl rfl rfl, ⟨v1, rfl, v3, v4, v5, (by decide : 0 ≤ (20 : Int32).toInt ∧ (20 : Int32).toInt ≤ 20), fun _ => ni_m s (by omega), v8, RO_c v9 rfl rfl rfl rfl⟩, LG_cx hL rfl rfl rfl rfl rfl rfl rfl rfl⟩
theorem n_106 {s : Nat} : ¬ (1 : Int32) = 0 := n10
theorem ra_q {x y : mm_S} {a : Nat} (h : R x y) (h12 : x.1 12 = 0) (hr : x.1 3 = -1) (hn : nw (gF x) = some a) : BQ (okl_m_booted_139 1 y) (e_runActive x) (l_m_booted_139 1 y) := by
  have h' := h
  obtain ⟨hA, hC, hM, hP, hV, hL⟩ := h'
  obtain ⟨s, hs, s1, s2, s3⟩ := ac_q hA hL hn
  have hs' : 1 - s < 2 := by omega
  obtain ⟨i1, i2, i3⟩ := ig_q hA hM hL hs
  have hR1 := R_SH (s := s) h
  obtain ⟨j1, j2, j3⟩ := ig_q (x := SH x s) (y := y) hR1.1 hR1.2.2.1 hR1.2.2.2.2.2 hs'
  have hR2 := R_SH (s := 1 - s) hR1
  have t2 : ∀ z, e_m_otherOf (nI s) z = nI (1 - s) := fun z => (ot_q hs x z).2
  have t1 : ∀ z, e_other (nI s) z = nI (1 - s) := fun z => (ot_q hs z y).1
  unfold e_runActive
  rw [okl_m_booted_139, l_m_booted_139]
  dsimp only
  rw [s1, s2, i1, t2, t1]
  dsimp only
  rw [j1]
  dsimp only
  have x12 : (SH (SH x s) (1 - s)).1 12 = 0 := h12
  have x12' : (SH x s).1 12 = 0 := h12
  have hn2 : nw (gF (SH (SH x s) (1 - s))) = some a := hn
  generalize hX1 : SH x s = X1 at *
  generalize hX2 : SH X1 (1 - s) = X2 at *
  generalize e_m_isGood (nI s) y = g at *
  generalize e_m_isGood (nI (1 - s)) y = g' at *
  by_cases c1 : g = 0
  · rw [if_pos c1, if_pos c1, if_pos c1]
    by_cases c2 : g' = 0
    · rw [if_pos c2, if_pos c2, if_pos c2]
      refine ⟨⟨s3, i2, j2, trivial⟩, ?_, hR2, Or.inr ⟨rfl, x12⟩⟩
      rw [if_neg n10, hV.1]
      exact hr.symm
    · rw [if_neg c2, if_neg c2, if_neg c2]
      obtain ⟨b, p, q, k1, k2, k3, k4⟩ := app_A hR2 x12 hn2 hs'
      rw [k1, k2]
      dsimp only
      rw [t2]
      rcases k4.1 with ⟨hb, hp12, -⟩ | ⟨hb, -⟩
      · subst hb
        rw [if_neg n10, if_neg n10, if_neg n10]
        exact ⟨⟨s3, i2, j2, k3, trivial⟩, rfl, R_run (AP_R1 k4 hR2.2.2.2.2.1) hs', Or.inr ⟨rfl, hp12⟩⟩
      · subst hb
        rw [if_pos rfl, if_pos rfl, if_pos rfl, ls_e]
        exact ⟨⟨s3, i2, j2, k3, trivial⟩, rfl, AP_R0 k4, Or.inl rfl⟩
  · rw [if_neg c1, if_neg c1, if_neg c1]
    exact ⟨⟨s3, i2, trivial⟩, rfl, R_run hR1 hs, Or.inr ⟨rfl, x12'⟩⟩
theorem rt_q {x y : mm_S} {a s : Nat} (h : R x y) (h12 : x.1 12 = 0) (hn : nw (gF x) = some a) (hs : s < 2) (ht : gF x (a + 5) = nI s) (hg : 1 ≤ (gF x (a + 6)).toInt) : ∃ (b : Int32) (p q : mm_S), e_runOnTrial (nI s) x = (if b = 0 then (-106, lsS p) else (nI s, mm_setI (mm_setI (mm_setI p 6 (p.1 6 + 1)) 3 (nI s)) 4 20)) ∧ e_m_appended (-2) (-2) (gF x (a + 6) - 1) (-2) (-2) y = (b, q) ∧ ok_m_appended (-2) (-2) (gF x (a + 6) - 1) (-2) (-2) y ∧ ((b = 1 ∧ R p q ∧ p.1 12 = 0) ∨ (b = 0 ∧ R (lsS p) q)) := by
  obtain ⟨z1, z2, z4, z5, z6, z7, z8, z9, z10, z11, z12, z13⟩ := rc_q h.2.2.2.2.2 hn
  have hs2 : ¬ nI s = -1 ∧ nI s = nI s &&& 255 := by
    have : s = 0 ∨ s = 1 := by omega
    rcases this with q | q <;> subst q <;> decide
  have hk : ∃ k, k < 3 ∧ gF x (a + 6) - 1 = nI k := by
    have e : (gF x (a + 6) - 1).toInt = (gF x (a + 6)).toInt - 1 := sb_q (by rw [mm_1]) (by omega) (by omega)
    exact ⟨(gF x (a + 6) - 1).toInt.toNat, by omega, ni_of (by omega)⟩
  obtain ⟨k, hk, ek⟩ := hk
  have hk2 : ¬ nI k = -2 ∧ nI k = nI k &&& 255 := by
    have : k = 0 ∨ k = 1 ∨ k = 2 := by omega
    rcases this with q | q | q <;> subst q <;> decide
  obtain ⟨b, p, q, k1, k2, k3, k4⟩ := app_T (x := x) (y := y) (t0 := nI s) (r0 := nI k) (t1 := -2) (r1 := nI k) h h12 hn (by rw [if_pos rfl, if_neg hs2.1, ht]; exact hs2.2) (by rw [if_neg hk2.1]; exact hk2.2)
  rw [ek]
  refine ⟨b, p, q, ?_, k2, k3, ?_⟩
  · unfold e_runOnTrial
    dsimp only
    rw [z10, ek, k1]
    dsimp only
    by_cases c : b = 0
    · rw [if_pos c, if_pos c, ls_e]
    · rw [if_neg c, if_neg c]
      rfl
  · rcases k4.1 with ⟨hb, hp12, -⟩ | ⟨hb, -⟩
    · subst hb
      exact Or.inl ⟨rfl, AP_R1 k4 h.2.2.2.2.1, hp12⟩
    · subst hb
      exact Or.inr ⟨rfl, AP_R0 k4⟩
/-- no trial: drop what is tried, run what is active -/
theorem l112 {x y : mm_S} {a : Nat} {u : Int32} (h : R x y) (h12 : x.1 12 = 0) (hr : x.1 3 = -1) (hn : nw (gF x) = some a) (hu : gF x (a + 5) = u) : (u = 255 → BQ (okl_m_booted_112 1 u y) (e_runActive x) (l_m_booted_112 1 u y)) ∧ (¬ u = 255 → ∃ (b : Int32) (p q : mm_S), e_appTrying (-1) 0 x = (b, p) ∧ BQ (okl_m_booted_112 1 u y) (if b = 0 then (-106, lsS p) else e_runActive p) (l_m_booted_112 1 u y)) := by
  rw [okl_m_booted_112, l_m_booted_112]
  dsimp only
  refine ⟨fun c => ?_, fun c => ?_⟩
  · rw [if_pos c, if_pos c]
    exact ra_q h h12 hr hn
  · rw [if_neg c, if_neg c]
    obtain ⟨b, p, q, k1, k2, k3, k4⟩ := app_T (x := x) (y := y) (t0 := -1) (r0 := 0) (t1 := 255) (r1 := 0) h h12 hn (by rw [if_neg (by decide), if_pos rfl]; rfl) (by rw [if_neg (by decide)]; rfl)
    refine ⟨b, p, q, k1, ?_⟩
    rw [k2]
    dsimp only
    rcases k4.1 with ⟨hb, hp12, -⟩ | ⟨hb, -⟩
    · subst hb
      rw [if_neg n10, if_neg n10, if_neg n10]
      obtain ⟨a', ha'⟩ := k4.2.2.2.2.2.2.1
      have hR := AP_R1 k4 h.2.2.2.2.1
      have hr' : p.1 3 = -1 := (k4.2.2.2.2.2.2.2.1 3 (by decide)).trans hr
      obtain ⟨o, w⟩ := ra_q hR hp12 hr' ha'
      exact ⟨⟨k3, o⟩, w⟩
    · subst hb
      rw [if_pos rfl, if_pos rfl, if_pos rfl]
      exact ⟨⟨k3, trivial⟩, rfl, AP_R0 k4, Or.inl rfl⟩
def b4 (x : mm_S) : mm_S := mm_setI (mm_setI (mm_setI (mm_setI (mm_setI x 5 (x.1 5 + 1)) 3 (-1)) 4 0) 1 (-1)) 2 0
def m4 (y : mm_S) : mm_S := mm_setI (mm_setI (mm_setI (cY y 3) 106 (-1)) 103 (-1)) 104 0
theorem R_b4 {x y : mm_S} (h : R x y) : R (b4 x) (m4 y) := by
  obtain ⟨hA, hC, hM, hP, ⟨v1, v2, v3, v4, v5, v6, v7, v8, v9⟩, hL⟩ := R_3 h
  exact ⟨RA_c hA rfl rfl rfl rfl rfl rfl, RC_c hC rfl rfl rfl rfl rfl rfl rfl rfl, RM_c hM rfl rfl rfl rfl rfl rfl rfl rfl rfl rfl, RP_c hP rfl rfl rfl rfl rfl rfl, ⟨rfl, rfl, v3, rfl, Or.inl rfl, (by decide : 0 ≤ (0 : Int32).toInt ∧ (0 : Int32).toInt ≤ 20), fun q => absurd (show (0 : Int32) = 0 from rfl) q, v8, Or.inl ⟨rfl, rfl⟩⟩, LG_cx hL rfl rfl rfl rfl rfl rfl rfl rfl⟩
def bT (x4 : mm_S) : Int32 × mm_S :=
  if (x4.1 21) = (-1 : Int32) then
    ((-1 : Int32), x4)
  else if (x4.1 24) = (-1 : Int32) then e_runActive x4
  else if (x4.1 25) ≤ (0 : Int32) then (if (e_appTrying (-1 : Int32) (0 : Int32) x4).1 = 0 then e_lose (e_appTrying (-1 : Int32) (0 : Int32) x4).2 else e_runActive (e_appTrying (-1 : Int32) (0 : Int32) x4).2)
  else if (e_isGood (x4.1 24) x4).1 = 0 then (if (e_appTrying (-1 : Int32) (0 : Int32) (e_isGood (x4.1 24) x4).2).1 = 0 then e_lose (e_appTrying (-1 : Int32) (0 : Int32) (e_isGood (x4.1 24) x4).2).2 else e_runActive (e_appTrying (-1 : Int32) (0 : Int32) (e_isGood (x4.1 24) x4).2).2)
  else e_runOnTrial (x4.1 24) (e_isGood (x4.1 24) x4).2
theorem bu_r (x : mm_S) : e_bootUp x = bT (b4 x) := by
  unfold e_bootUp
  dsimp only
  rw [dr_e]
  have e : drS (mm_setI (mm_setI (mm_setI x 5 (x.1 5 + 1)) 3 (-1)) 4 0) = b4 x := rfl
  rw [e]
  generalize b4 x = X
  unfold bT
  by_cases c1 : X.1 21 = -1
  · rw [if_pos c1, if_pos c1]
  · rw [if_neg c1, if_neg c1]
    by_cases c2 : X.1 24 = -1
    · rw [if_pos c2, if_pos c2, if_pos c2]
    · rw [if_neg c2, if_neg c2, if_neg c2, if_neg c2]
def mT (x4 : mm_S) : Int32 × mm_S :=
  if (e_m_newest x4) = (-1 : Int32) then
    ((1 : Int32), x4)
  else
    if (e_m_isGood (x4.2.2 10 (Int32.toNatClampNeg ((e_m_newest x4) + (5 : Int32)))) x4) = (0 : Int32) then
      l_m_booted_112 (1) (x4.2.2 10 (Int32.toNatClampNeg ((e_m_newest x4) + (5 : Int32)))) x4
    else
      if (x4.2.2 10 (Int32.toNatClampNeg ((e_m_newest x4) + (6 : Int32)))) ≤ (0 : Int32) then
        l_m_booted_112 (1) (x4.2.2 10 (Int32.toNatClampNeg ((e_m_newest x4) + (5 : Int32)))) x4
      else
        if (e_m_appended (-2 : Int32) (-2 : Int32) ((x4.2.2 10 (Int32.toNatClampNeg ((e_m_newest x4) + (6 : Int32)))) - (1 : Int32)) (-2 : Int32) (-2 : Int64) x4).1 = (0 : Int32) then
          ((0 : Int32), (e_m_appended (-2 : Int32) (-2 : Int32) ((x4.2.2 10 (Int32.toNatClampNeg ((e_m_newest x4) + (6 : Int32)))) - (1 : Int32)) (-2 : Int32) (-2 : Int64) x4).2)
        else
          ((1 : Int32), cY (mm_setI (mm_setI (e_m_appended (-2 : Int32) (-2 : Int32) ((x4.2.2 10 (Int32.toNatClampNeg ((e_m_newest x4) + (6 : Int32)))) - (1 : Int32)) (-2 : Int32) (-2 : Int64) x4).2 103 (x4.2.2 10 (Int32.toNatClampNeg ((e_m_newest x4) + (5 : Int32))))) 104 20) 4)
theorem mb_r (y : mm_S) : e_m_booted y = mT (m4 y) := by
  unfold e_m_booted mT
  dsimp only
  have e : mm_setI (mm_setI (mm_setI (mm_setA y 13 (upd (y.2.2 13) (Int32.toNatClampNeg 3) (y.2.2 13 (Int32.toNatClampNeg 3) + 1))) 106 (-1)) 103 (-1)) 104 0 = m4 y := rfl
  rw [e]
  rfl
def oT (x4 : mm_S) : Prop := (ok_m_newest x4) ∧ (if (e_m_newest x4) = (-1 : Int32) then (True) else ((vp_in ((e_m_newest x4) + (5 : Int32)) 4096) ∧ (vp_in ((e_m_newest x4) + (6 : Int32)) 4096) ∧ (ok_m_isGood (x4.2.2 10 (Int32.toNatClampNeg ((e_m_newest x4) + (5 : Int32)))) x4) ∧ (if (e_m_isGood (x4.2.2 10 (Int32.toNatClampNeg ((e_m_newest x4) + (5 : Int32)))) x4) = (0 : Int32) then (okl_m_booted_112 (1) (x4.2.2 10 (Int32.toNatClampNeg ((e_m_newest x4) + (5 : Int32)))) x4) else (if (x4.2.2 10 (Int32.toNatClampNeg ((e_m_newest x4) + (6 : Int32)))) ≤ (0 : Int32) then (okl_m_booted_112 (1) (x4.2.2 10 (Int32.toNatClampNeg ((e_m_newest x4) + (5 : Int32)))) x4) else ((ok_m_appended (-2 : Int32) (-2 : Int32) ((x4.2.2 10 (Int32.toNatClampNeg ((e_m_newest x4) + (6 : Int32)))) - (1 : Int32)) (-2 : Int32) (-2 : Int64) x4) ∧ (if (e_m_appended (-2 : Int32) (-2 : Int32) ((x4.2.2 10 (Int32.toNatClampNeg ((e_m_newest x4) + (6 : Int32)))) - (1 : Int32)) (-2 : Int32) (-2 : Int64) x4).1 = (0 : Int32) then (True) else ((vp_in (4 : Int32) 7) ∧ (vp_in (4 : Int32) 7) ∧ True)))))))
theorem ob_r {y : mm_S} (h : oT (m4 y)) : ok_m_booted y := by
  unfold ok_m_booted
  dsimp only
  have e : mm_setI (mm_setI (mm_setI (mm_setA y 13 (upd (y.2.2 13) (Int32.toNatClampNeg 3) (y.2.2 13 (Int32.toNatClampNeg 3) + 1))) 106 (-1)) 103 (-1)) 104 0 = m4 y := rfl
  rw [e]
  unfold oT at h
  exact ⟨vi 3 7 (by decide) (by decide), vi 3 7 (by decide) (by decide), h⟩
theorem bq_T {x y : mm_S} (h : R x y) (h12 : x.1 12 = 0) (hr : x.1 3 = -1) : BQ (oT y) (bT x) (mT y) := by
  have h' := h
  obtain ⟨hA, hC, hM, hP, hV, hL⟩ := h'
  unfold oT bT mT
  rw [R_nm hA hL]
  cases hn : nw (gF x) with
  | none =>
    have e : x.1 21 = -1 := by
      rw [hL.1, hn]
      rfl
    rw [if_pos e, if_pos e, if_pos e]
    refine ⟨⟨nm_ok y, trivial⟩, ?_, h, Or.inr ⟨rfl, h12⟩⟩
    rw [if_neg n10, hV.1]
    exact hr.symm
  | some a =>
    obtain ⟨z1, z2, z4, z5, z6, z7, z8, z9, z10, z11, z12, z13⟩ := rc_q hL hn
    have ne : ¬ x.1 21 = -1 := by
      rw [z1]
      exact ni_m a (by omega)
    have f5 : y.2.2 10 (a + 5) = gF x (a + 5) := hA.1 _ (by omega)
    have f6 : y.2.2 10 (a + 6) = gF x (a + 6) := hA.1 _ (by omega)
    have o5 : vp_in (nI (a + 5)) 4096 := nI_in (by omega) (by decide)
    have o6 : vp_in (nI (a + 6)) 4096 := nI_in (by omega) (by decide)
    rw [if_neg ne, if_neg ne, if_neg ne, z1, show nI a + 5 = nI (a + 5) from nI_add a 5, show nI a + 6 = nI (a + 6) from nI_add a 6, pu_clamp (n := a + 5) (by omega), pu_clamp (n := a + 6) (by omega), f5, f6, z10]
    have L := l112 (u := gF x (a + 5)) h h12 hr hn rfl
    rcases z9 with ⟨y1, y2⟩ | ⟨y1, y2, y3, s, hs, y4⟩
    · obtain ⟨g1, g2⟩ := ig_255 y
      obtain ⟨w1, w2⟩ := L.1 y2
      rw [y2] at *
      rw [if_pos y1, if_pos g1, if_pos g1]
      exact ⟨⟨nm_ok y, o5, o6, g2, w1⟩, w2⟩
    · obtain ⟨i1, i2, i3⟩ := ig_q hA hM hL hs
      have hR1 := R_SH (s := s) h
      have hn1 : nw (gF (SH x s)) = some a := hn
      have x12 : (SH x s).1 12 = 0 := h12
      have x3 : (SH x s).1 3 = -1 := hr
      have L1 := l112 (x := SH x s) (y := y) (u := gF x (a + 5)) hR1 x12 x3 hn1 rfl
      rw [if_neg y1, y2]
      rw [y4] at L L1 y3 ⊢
      rw [i1]
      dsimp only
      by_cases c1 : gF x (a + 6) ≤ 0
      · rw [if_pos c1, if_pos c1, if_pos c1]
        obtain ⟨b, p, q, k1, k2, k3⟩ := L.2 y3
        rw [k1]
        dsimp only
        rw [ls_e]
        have e1 : (if e_m_isGood (nI s) y = 0 then l_m_booted_112 1 (nI s) y else l_m_booted_112 1 (nI s) y) = l_m_booted_112 1 (nI s) y := by split <;> rfl
        rw [e1]
        refine ⟨⟨nm_ok y, o5, o6, i2, ?_⟩, k3⟩
        split <;> exact k2
      · rw [if_neg c1, if_neg c1, if_neg c1]
        by_cases c2 : e_m_isGood (nI s) y = 0
        · rw [if_pos c2, if_pos c2, if_pos c2]
          obtain ⟨b, p, q, k1, k2, k3⟩ := L1.2 y3
          rw [k1]
          dsimp only
          rw [ls_e]
          exact ⟨⟨nm_ok y, o5, o6, i2, k2⟩, k3⟩
        · rw [if_neg c2, if_neg c2, if_neg c2]
          rw [le_l (k := 0) (by decide)] at c1
          obtain ⟨b, p, q, k1, k2, k3, k4⟩ := rt_q (x := SH x s) (y := y) hR1 x12 hn1 hs y4 (by show 1 ≤ (gF x (a + 6)).toInt; omega)
          have k2' : e_m_appended (-2) (-2) (gF x (a + 6) - 1) (-2) (-2) y = (b, q) := k2
          have k3' : ok_m_appended (-2) (-2) (gF x (a + 6) - 1) (-2) (-2) y := k3
          rw [k1, k2']
          dsimp only
          rcases k4 with ⟨hb, k4, hp12⟩ | ⟨hb, k4⟩
          · subst hb
            rw [if_neg n10, if_neg n10, if_neg n10]
            exact ⟨⟨nm_ok y, o5, o6, i2, k3', vi 4 7 (by decide) (by decide), vi 4 7 (by decide) (by decide), trivial⟩, rfl, R_tick (R_4 k4) hs, Or.inr ⟨rfl, hp12⟩⟩
          · subst hb
            rw [if_pos rfl, if_pos rfl, if_pos rfl]
            exact ⟨⟨nm_ok y, o5, o6, i2, k3', trivial⟩, rfl, k4, Or.inl rfl⟩
theorem q_booted {x y : mm_S} (h : R x y) (h12 : x.1 12 = 0) : BQ (ok_m_booted y) (e_bootUp x) (e_m_booted y) := by
  obtain ⟨h1, h2⟩ := bq_T (R_b4 h) h12 rfl
  rw [bu_r, mb_r]
  exact ⟨ob_r h1, h2⟩
