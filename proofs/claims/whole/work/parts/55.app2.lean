/-! An append: the writes side by side, then the whole. -/
theorem n10 : ¬ (1 : Int32) = 0 := by decide
theorem w2_q {x y : mm_S} {c : Nat} (hA : RA x y) (hC : RC x y) (hM : RM x y) (hP : RP x y) (h12 : x.1 12 = 0) (hc : c + 16 ≤ 4096) (hl : ∀ t, t < 16 → y.2.2 15 t = x.2.2 2 t &&& 255) : ∃ (b : Int32) (p q : mm_S), cE2 (nI c) x = (b, e_look p) ∧ aE2 (nI c) y = (b, q) ∧ oE2 (nI c) y ∧ WA x y p q b ∧ ∀ j, j < c ∨ c + 16 ≤ j → p.2.2 1 j = x.2.2 1 j := by
  obtain ⟨b, p, q, h1, h2, h3, h4, h5⟩ := pl_q (a := c) (f := 0) (n := 16) (r := 2) (n' := 16) (r' := 15) hA hC hM hP h12 hc (by decide) (by decide) (by decide) (by decide) (by decide) (by decide) (by decide) (fun t ht => by rw [Nat.zero_add]; exact hl t ht)
  have h1' : e_pline (nI c) 16 2 0 x = (b, p) := h1
  have h2' : e_m_programmed (nI c) 16 15 0 y = (b, q) := h2
  have h3' : ok_m_programmed (nI c) 16 15 0 y := h3
  unfold cE2 aE2 oE2
  dsimp only
  rw [h1', h2']
  dsimp only
  rcases h4.1 with ⟨hb, -⟩ | ⟨hb, -⟩
  · subst hb
    refine ⟨1, _, _, if_neg n10, if_neg n10, ⟨h3', ?_⟩, WW_A1 h4, h5⟩
    rw [if_neg n10]
    exact ⟨vi 2 7 (by decide) (by decide), vi 2 7 (by decide) (by decide), trivial⟩
  · subst hb
    refine ⟨0, p, q, if_pos rfl, if_pos rfl, ⟨h3', ?_⟩, WW_A0 h4, h5⟩
    rw [if_pos rfl]
    trivial
theorem o_s {s : Nat} (hs : s < 2) : (1 : Int32) - nI s = nI (1 - s) ∧ (64 : Int32) * nI (1 - s) = nI (64 * (1 - s)) ∧ nI (1 - s) * (64 : Int32) = nI (64 * (1 - s)) := by
  have : s = 0 ∨ s = 1 := by omega
  rcases this with h | h <;> subst h <;> decide
theorem w1_q {x y : mm_S} {s : Nat} (hs : s < 2) (ho : e_other ((x.1 21) / (64 : Int32)) x = nI (1 - s)) (hA : RA x y) (hC : RC x y) (hM : RM x y) (hP : RP x y) (h12 : x.1 12 = 0) (hl : ∀ t, t < 16 → y.2.2 15 t = x.2.2 2 t &&& 255) : ∃ (b : Int32) (p q : mm_S), cE1 x = (b, e_look p) ∧ aE1 (nI s) y = (b, q) ∧ oE1 (nI s) y ∧ WA x y p q b ∧ ∀ j, j < 64 * (1 - s) ∨ 64 * (1 - s) + 64 ≤ j → p.2.2 1 j = x.2.2 1 j := by
  obtain ⟨o1, o2, o3⟩ := o_s hs
  obtain ⟨b, p, q, h1, h2, h3, h4, h5⟩ := er_q (s := 1 - s) hA hC hM hP h12 (by omega)
  unfold cE1 aE1 oE1
  dsimp only
  rw [ho, o1, o2, o3, h1, h2]
  dsimp only
  rcases h4.1 with ⟨hb, h12', -⟩ | ⟨hb, -⟩
  · subst hb
    have h4' := h4
    obtain ⟨-, b2, b3, b4, b5, b6, b7, b8, b9, b10, b11⟩ := h4'
    obtain ⟨b', p', q', k1, k2, k3, k4, k5⟩ := pl_q (x := p) (y := q) (a := 64 * (1 - s)) (f := 0) (n := 16) (r := 2) (n' := 16) (r' := 15) b2 b3 b4 b5 h12' (by omega) (by decide) (by decide) (by decide) (by decide) (by decide) (by decide) (by decide) (fun t ht => by rw [Nat.zero_add, b9 15 (by decide) (by decide), b7 2 (by decide)]; exact hl t ht)
    have k1' : e_pline (nI (64 * (1 - s))) 16 2 0 p = (b', p') := k1
    have k2' : e_m_programmed (nI (64 * (1 - s))) 16 15 0 q = (b', q') := k2
    have k3' : ok_m_programmed (nI (64 * (1 - s))) 16 15 0 q := k3
    have hw := WW_t h4 k4
    have hfr : ∀ j, j < 64 * (1 - s) ∨ 64 * (1 - s) + 64 ≤ j → p'.2.2 1 j = x.2.2 1 j := fun j hj => (k5 j (by omega)).trans (h5 j hj)
    rw [if_neg n10, if_neg n10, if_neg n10, k1', k2']
    dsimp only
    rcases k4.1 with ⟨hb, -⟩ | ⟨hb, -⟩
    · subst hb
      refine ⟨1, _, _, if_neg n10, if_neg n10, ⟨h3, k3', ?_⟩, WW_A1 hw, hfr⟩
      rw [if_neg n10]
      exact ⟨vi 2 7 (by decide) (by decide), vi 2 7 (by decide) (by decide), trivial⟩
    · subst hb
      refine ⟨0, p', q', if_pos rfl, if_pos rfl, ⟨h3, k3', ?_⟩, WW_A0 hw, hfr⟩
      rw [if_pos rfl]
      trivial
  · subst hb
    refine ⟨0, p, q, if_pos rfl, if_pos rfl, ⟨h3, ?_⟩, WW_A0 h4, h5⟩
    rw [if_pos rfl]
    trivial
theorem dv64 : ∀ a, a < 128 → nI a / 64 = nI (a / 64) := by decide +kernel
theorem bk_r {x : mm_S} {a : Nat} (h : x.1 21 = nI a) (ha : a < 128) : e_blankLine x = l_blankLine_21 (mm_fu (nI (a + 16)) (nI (64 * (a / 64 + 1)))) (nI (64 * (a / 64 + 1))) (nI (a + 16)) x := by
  have e1 : (nI (a / 64) + 1) * 64 = nI (64 * (a / 64 + 1)) := by
    rw [nI_1, Nat.mul_comm 64]
    exact ml3 (a / 64 + 1) 64
  have e2 : nI a + 16 = nI (a + 16) := nI_add a 16
  unfold e_blankLine
  dsimp only
  rw [h, dv64 a ha, e1, e2]
/-- class and reference append alike -/
theorem ap_q {x y : mm_S} {a : Nat} {a0 t0 r0 v0 c0 a1 t1 r1 v1 : Int32} {c1 : Int64} (hA : RA x y) (hC : RC x y) (hM : RM x y) (hP : RP x y) (hL : LG x) (h12 : x.1 12 = 0) (hn : nw (gF x) = some a) (ha0 : a1 = a0 &&& 255) (ht0 : t1 = (if t0 = -1 then 255 else t0) &&& 255) (hr0 : r1 = r0 &&& 255) (hv0 : v1 = v0 &&& 255) (hc0 : (Int32.toInt64 c0).toInt % 2 ^ 32 = c1.toInt % 2 ^ 32) : ∃ (b : Int32) (p q : mm_S), e_append a0 t0 r0 v0 c0 x = (b, p) ∧ l_m_appended_145 (mm_fu (nI (a + 16)) (nI (64 * (a / 64 + 1)))) (nI (a / 64)) (nI (a + 16)) (e_m_lineIs (rdn (y.2.2 10) a 4 0 + 1) a1 t1 r1 v1 c1 y) = (b, q) ∧ okl_m_appended_145 (mm_fu (nI (a + 16)) (nI (64 * (a / 64 + 1)))) (nI (a / 64)) (nI (a + 16)) (e_m_lineIs (rdn (y.2.2 10) a 4 0 + 1) a1 t1 r1 v1 c1 y) ∧ AP x y p q b := by
  obtain ⟨g1, g2, g3⟩ := nw_b hn
  obtain ⟨l1, -, l3⟩ := hL
  have hs := (l3 a hn).1
  have er : rdn (gF x) a 4 0 = rdn (y.2.2 10) a 4 0 := (rdn_congr (g := y.2.2 10) (h := gF x) 4 a 0 (fun j h1 h2 => hA.1 j (by omega))).symm
  rw [er] at hs
  have hE := ea_r (x := x) (a := a0) (t := t0) (r := r0) (v := v0) (c := c0) rfl
  rw [e_lcompose_1, hs, ln_c] at hE
  rw [ln_m]
  have hl := ln_q (x := x) (y := y) (s := Int32.toInt64 ((rdn (y.2.2 10) a 4 0).toInt32 + 1)) (S := rdn (y.2.2 10) a 4 0 + 1) (lo_1 _) hc0 ha0 ht0 hr0 hv0
  have x21 : x.1 21 = nI a := by
    rw [l1, hn]
    rfl
  have hs2 : a / 64 < 2 := by omega
  generalize L2 x (Int32.toInt64 ((rdn (y.2.2 10) a 4 0).toInt32 + 1)) a0 (if t0 = -1 then 255 else t0) r0 v0 c0 = F2 at *
  generalize L15 y (rdn (y.2.2 10) a 4 0 + 1) a1 t1 r1 v1 c1 = F15 at *
  have hA2 : RA (mm_setA x 2 F2) (mm_setA y 15 F15) := RA_c hA rfl rfl rfl rfl rfl rfl
  have hC2 : RC (mm_setA x 2 F2) (mm_setA y 15 F15) := RC_c hC rfl rfl rfl rfl rfl rfl rfl rfl
  have hM2 : RM (mm_setA x 2 F2) (mm_setA y 15 F15) := RM_c hM rfl rfl rfl rfl rfl rfl rfl rfl rfl rfl
  have hP2 : RP (mm_setA x 2 F2) (mm_setA y 15 F15) := RP_c hP rfl rfl rfl rfl rfl rfl
  have hl2 : ∀ t, t < 16 → (mm_setA y 15 F15).2.2 15 t = (mm_setA x 2 F2).2.2 2 t &&& 255 := fun t ht => by
    rw [gAs, gAs]
    exact hl t ht
  have hm : ∃ m, a + 16 + 16 * m = 64 * (a / 64 + 1) := ⟨(64 * (a / 64 + 1) - (a + 16)) / 16, by omega⟩
  obtain ⟨m, hm⟩ := hm
  have hfu : m < mm_fu (nI (a + 16)) (nI (64 * (a / 64 + 1))) := by
    rw [pu_fu (by omega) (by omega)]
    omega
  rw [bk_r (x := mm_setA x 2 F2) x21 (by omega)] at hE
  rcases bk_q hA2 hs2 m _ _ (a + 16) hm hfu hfu with ⟨k1, k2, k3⟩ | ⟨c, k0, k00, k1, k2, k3⟩
  · rw [k1, if_pos rfl] at hE
    obtain ⟨b, p, q, w1, w2, w3, w4, w5⟩ := w1_q (x := mm_setA x 2 F2) (y := mm_setA y 15 F15) hs2 (by
      show (1 : Int32) - x.1 21 / 64 = _
      rw [x21, dv64 a (by omega)]
      exact (o_s hs2).1) hA2 hC2 hM2 hP2 h12 hl2
    refine ⟨b, e_look p, q, hE.trans w1, k2.trans w2, k3 w3, WA_P w4 g1 g3 g2 (fun j h1 h2 => w5 j (by omega)) (fun r _ => rfl) (fun r h => gAn h) rfl (fun r h => gAn h)⟩
  · rw [k1, if_neg (ni_m c (by omega))] at hE
    obtain ⟨b, p, q, w1, w2, w3, w4, w5⟩ := w2_q (x := mm_setA x 2 F2) (y := mm_setA y 15 F15) (c := c) hA2 hC2 hM2 hP2 h12 (by omega) hl2
    refine ⟨b, e_look p, q, hE.trans w1, k2.trans w2, k3 w3, WA_P w4 g1 g3 g2 (fun j h1 h2 => w5 j (by omega)) (fun r _ => rfl) (fun r h => gAn h) rfl (fun r h => gAn h)⟩
