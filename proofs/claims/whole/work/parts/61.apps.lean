/-! The appends as the calls make them. -/
theorem aq {x y : mm_S} {a : Nat} {a0 t0 r0 v0 c0 a1 t1 r1 v1 : Int32} {c1 : Int64} (h : R x y) (h12 : x.1 12 = 0) (hn : nw (gF x) = some a) (ha0 : (if a1 = -2 then gF x (a + 4) else a1) = a0 &&& 255) (ht0 : (if t1 = -2 then gF x (a + 5) else t1) = (if t0 = -1 then 255 else t0) &&& 255) (hr0 : (if r1 = -2 then gF x (a + 6) else r1) = r0 &&& 255) (hv0 : (if v1 = -2 then gF x (a + 7) else v1) = v0 &&& 255) (hc0 : (Int32.toInt64 c0).toInt % 2 ^ 32 = (if c1 = -2 then rdn (gF x) (a + 8) 4 0 else c1).toInt % 2 ^ 32) : ∃ (b : Int32) (p q : mm_S), e_append a0 t0 r0 v0 c0 x = (b, p) ∧ e_m_appended a1 t1 r1 v1 c1 y = (b, q) ∧ ok_m_appended a1 t1 r1 v1 c1 y ∧ AP x y p q b := by
  obtain ⟨hA, hC, hM, hP, hV, hL⟩ := h
  obtain ⟨g1, g2, g3⟩ := nw_b hn
  have hn' : nw (y.2.2 10) = some a := by
    rw [R_nw hA, hn]
  have f4 : y.2.2 10 (a + 4) = gF x (a + 4) := hA.1 _ (by omega)
  have f5 : y.2.2 10 (a + 5) = gF x (a + 5) := hA.1 _ (by omega)
  have f6 : y.2.2 10 (a + 6) = gF x (a + 6) := hA.1 _ (by omega)
  have f7 : y.2.2 10 (a + 7) = gF x (a + 7) := hA.1 _ (by omega)
  have f8 : rdn (y.2.2 10) (a + 8) 4 0 = rdn (gF x) (a + 8) 4 0 := rdn_congr 4 (a + 8) 0 (fun j h1 h2 => hA.1 j (by omega))
  obtain ⟨b, p, q, k1, k2, k3, k4⟩ := ap_q (x := x) (y := y) (a := a) (a0 := a0) (t0 := t0) (r0 := r0) (v0 := v0) (c0 := c0) (a1 := if a1 = -2 then y.2.2 10 (a + 4) else a1) (t1 := if t1 = -2 then y.2.2 10 (a + 5) else t1) (r1 := if r1 = -2 then y.2.2 10 (a + 6) else r1) (v1 := if v1 = -2 then y.2.2 10 (a + 7) else v1) (c1 := if c1 = -2 then rdn (y.2.2 10) (a + 8) 4 0 else c1) hA hC hM hP hL h12 hn (by rw [f4]; exact ha0) (by rw [f5]; exact ht0) (by rw [f6]; exact hr0) (by rw [f7]; exact hv0) (by rw [f8]; exact hc0)
  exact ⟨b, p, q, k1, (am_r hn').trans k2, ao_r hn' k3, k4⟩
/-- what the newest record says -/
theorem rc_q {x : mm_S} {a : Nat} (hL : LG x) (hn : nw (gF x) = some a) : x.1 21 = nI a ∧ a ≤ 112 ∧ gF x (a + 4) = x.1 23 &&& 255 ∧ gF x (a + 5) = (if x.1 24 = -1 then 255 else x.1 24) &&& 255 ∧ gF x (a + 6) = x.1 25 &&& 255 ∧ gF x (a + 7) = x.1 26 &&& 255 ∧ (Int32.toInt64 (x.1 27)).toInt % 2 ^ 32 = (rdn (gF x) (a + 8) 4 0).toInt % 2 ^ 32 ∧ ((x.1 24 = -1 ∧ gF x (a + 5) = 255) ∨ (¬ x.1 24 = -1 ∧ x.1 24 = gF x (a + 5) ∧ ¬ gF x (a + 5) = 255 ∧ ∃ s, s < 2 ∧ gF x (a + 5) = nI s)) ∧ x.1 25 = gF x (a + 6) ∧ 0 ≤ (gF x (a + 6)).toInt ∧ (gF x (a + 6)).toInt < 4 ∧ x.1 26 = gF x (a + 7) := by
  obtain ⟨g1, g2, g3⟩ := nw_b hn
  obtain ⟨w1, w2, w3, w4, w5⟩ := wh_e g2
  obtain ⟨l1, l2, l3⟩ := hL
  obtain ⟨m1, m2, m3, m4, m5, m6⟩ := l3 a hn
  have an : ∀ j, gF x j &&& 255 = gF x j := fun j => pu_and _
  have b5 := gF_b x 0 4096 (a + 5) (by omega) (by omega)
  have b6 := gF_b x 0 4096 (a + 6) (by omega) (by omega)
  have n5 : ¬ gF x (a + 5) = -1 := fun q => by
    rw [q] at b5
    exact absurd b5.1 (by decide)
  rw [lt_l (k := 4) (by decide)] at w5
  refine ⟨?_, g1, ?_, ?_, ?_, ?_, ?_, ?_, m4, b6.1, w5, m5⟩
  · rw [l1, hn]
    rfl
  · rw [m2, an]
  · rw [m3]
    by_cases c : gF x (a + 5) = 255
    · rw [if_pos c, if_pos rfl, c]
      rfl
    · rw [if_neg c, if_neg n5, an]
  · rw [m4, an]
  · rw [m5, an]
  · rw [m6]
    exact lo_q _
  · by_cases c : gF x (a + 5) = 255
    · left
      rw [m3, if_pos c]
      exact ⟨rfl, c⟩
    · right
      rw [m3, if_neg c]
      rcases w4 with w | w
      · exact ⟨n5, rfl, c, in_b w b5.1⟩
      · exact absurd w c
theorem app_T {x y : mm_S} {a : Nat} {t0 r0 t1 r1 : Int32} (h : R x y) (h12 : x.1 12 = 0) (hn : nw (gF x) = some a) (ht0 : (if t1 = -2 then gF x (a + 5) else t1) = (if t0 = -1 then 255 else t0) &&& 255) (hr0 : (if r1 = -2 then gF x (a + 6) else r1) = r0 &&& 255) : ∃ (b : Int32) (p q : mm_S), e_appTrying t0 r0 x = (b, p) ∧ e_m_appended (-2) t1 r1 (-2) (-2) y = (b, q) ∧ ok_m_appended (-2) t1 r1 (-2) (-2) y ∧ AP x y p q b := by
  obtain ⟨z1, z2, z4, z5, z6, z7, z8, -⟩ := rc_q h.2.2.2.2.2 hn
  obtain ⟨b, p, q, k1, k2, k3, k4⟩ := aq (a0 := x.1 23) (t0 := t0) (r0 := r0) (v0 := x.1 26) (c0 := x.1 27) (a1 := -2) (t1 := t1) (r1 := r1) (v1 := -2) (c1 := -2) h h12 hn (by rw [if_pos rfl]; exact z4) ht0 hr0 (by rw [if_pos rfl]; exact z7) (by rw [if_pos rfl]; exact z8)
  refine ⟨b, p, q, ?_, k2, k3, k4⟩
  unfold e_appTrying
  dsimp only
  rw [k1]
theorem app_A {x y : mm_S} {a s : Nat} (h : R x y) (h12 : x.1 12 = 0) (hn : nw (gF x) = some a) (hs : s < 2) : ∃ (b : Int32) (p q : mm_S), e_appActive (nI s) x = (b, p) ∧ e_m_appended (nI s) (-2) (-2) (-2) (-2) y = (b, q) ∧ ok_m_appended (nI s) (-2) (-2) (-2) (-2) y ∧ AP x y p q b := by
  obtain ⟨z1, z2, z4, z5, z6, z7, z8, -⟩ := rc_q h.2.2.2.2.2 hn
  have hs2 : ¬ nI s = -2 ∧ nI s = nI s &&& 255 := by
    have : s = 0 ∨ s = 1 := by omega
    rcases this with q | q <;> subst q <;> decide
  obtain ⟨b, p, q, k1, k2, k3, k4⟩ := aq (a0 := nI s) (t0 := x.1 24) (r0 := x.1 25) (v0 := x.1 26) (c0 := x.1 27) (a1 := nI s) (t1 := -2) (r1 := -2) (v1 := -2) (c1 := -2) h h12 hn (by rw [if_neg hs2.1]; exact hs2.2) (by rw [if_pos rfl]; exact z5) (by rw [if_pos rfl]; exact z6) (by rw [if_pos rfl]; exact z7) (by rw [if_pos rfl]; exact z8)
  refine ⟨b, p, q, ?_, k2, k3, k4⟩
  unfold e_appActive
  dsimp only
  rw [k1]
theorem app_C {x y : mm_S} {a s : Nat} {c : Int64} (h : R x y) (h12 : x.1 12 = 0) (hn : nw (gF x) = some a) (hs : s < 2) (hc : 0 ≤ c.toInt) : ∃ (b : Int32) (p q : mm_S), e_appConfirmed (nI s) c.toInt32 x = (b, p) ∧ e_m_appended (nI s) 255 0 (-2) c y = (b, q) ∧ ok_m_appended (nI s) 255 0 (-2) c y ∧ AP x y p q b := by
  obtain ⟨z1, z2, z4, z5, z6, z7, z8, -⟩ := rc_q h.2.2.2.2.2 hn
  have hs2 : ¬ nI s = -2 ∧ nI s = nI s &&& 255 := by
    have : s = 0 ∨ s = 1 := by omega
    rcases this with q | q <;> subst q <;> decide
  have hc2 : ¬ c = -2 := fun q => by
    rw [q] at hc
    exact absurd hc (by decide)
  obtain ⟨b, p, q, k1, k2, k3, k4⟩ := aq (a0 := nI s) (t0 := -1) (r0 := 0) (v0 := x.1 26) (c0 := c.toInt32) (a1 := nI s) (t1 := 255) (r1 := 0) (v1 := -2) (c1 := c) h h12 hn (by rw [if_neg hs2.1]; exact hs2.2) (by rw [if_neg (by decide), if_pos rfl]; rfl) (by rw [if_neg (by decide)]; rfl) (by rw [if_pos rfl]; exact z7) (by rw [if_neg hc2]; exact lo_q c)
  refine ⟨b, p, q, ?_, k2, k3, k4⟩
  unfold e_appConfirmed
  dsimp only
  rw [k1]
theorem app_V {x y : mm_S} {a : Nat} {v : Int32} (h : R x y) (h12 : x.1 12 = 0) (hn : nw (gF x) = some a) (hv : ¬ v = -2) (hv2 : v = v &&& 255) : ∃ (b : Int32) (p q : mm_S), e_appRevoked v x = (b, p) ∧ e_m_appended (-2) (-2) (-2) v (-2) y = (b, q) ∧ ok_m_appended (-2) (-2) (-2) v (-2) y ∧ AP x y p q b := by
  obtain ⟨z1, z2, z4, z5, z6, z7, z8, -⟩ := rc_q h.2.2.2.2.2 hn
  obtain ⟨b, p, q, k1, k2, k3, k4⟩ := aq (a0 := x.1 23) (t0 := x.1 24) (r0 := x.1 25) (v0 := v) (c0 := x.1 27) (a1 := -2) (t1 := -2) (r1 := -2) (v1 := v) (c1 := -2) h h12 hn (by rw [if_pos rfl]; exact z4) (by rw [if_pos rfl]; exact z5) (by rw [if_pos rfl]; exact z6) (by rw [if_neg hv]; exact hv2) (by rw [if_pos rfl]; exact z8)
  refine ⟨b, p, q, ?_, k2, k3, k4⟩
  unfold e_appRevoked
  dsimp only
  rw [k1]
