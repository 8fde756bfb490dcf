/-! Ticks. -/
theorem tk0 {n : Nat} (hn : n < 2 ^ 31) {u : Int32} {y : mm_S} (h : e_m_isTrial y = 0) : ∀ (f i : Nat), i ≤ n → n - i < f → l_m_tick_29 f (nI n) u (nI i) y = (u, y) ∧ okl_m_tick_29 f (nI n) u (nI i) y
  | 0, i, _, hf => by omega
  | f + 1, i, hi, hf => by
    rw [l_m_tick_29, okl_m_tick_29]
    by_cases c : n ≤ i
    · rw [if_pos (le_t c (by omega)), if_pos (le_t c (by omega))]
      exact ⟨rfl, trivial⟩
    · rw [if_neg (le_f (by omega) (by omega)), if_neg (le_f (by omega) (by omega)), if_pos h, if_pos h, nI_1]
      exact tk0 hn h f (i + 1) (by omega) (by omega)
theorem R_dec {x y : mm_S} (h : R x y) (hr : ¬ x.1 3 = -1) (ht : 1 ≤ (x.1 4).toInt) : R (mm_setI x 4 (x.1 4 - 1)) (mm_setI y 104 (y.1 104 - 1)) ∧ (x.1 4 - 1).toInt = (x.1 4).toInt - 1 := by
  obtain ⟨hA, hC, hM, hP, ⟨v1, v2, v3, v4, v5, v6, v7, v8, v9⟩, hL⟩ := h
  have e : (x.1 4 - 1).toInt = (x.1 4).toInt - 1 := sb_q (by rw [mm_1]) (by omega) (by omega)
  refine ⟨⟨RA_c hA rfl rfl rfl rfl rfl rfl, RC_c hC rfl rfl rfl rfl rfl rfl rfl rfl, RM_c hM rfl rfl rfl rfl rfl rfl rfl rfl rfl rfl, RP_c hP rfl rfl rfl rfl rfl rfl, ⟨v1, ?_, v3, v4, v5, ?_, fun _ => hr, v8, RO_c v9 rfl rfl rfl rfl⟩, LG_cx hL rfl rfl rfl rfl rfl rfl rfl rfl⟩, e⟩
  · show y.1 104 - 1 = x.1 4 - 1
    rw [v2]
  · show 0 ≤ (x.1 4 - 1).toInt ∧ (x.1 4 - 1).toInt ≤ 20
    omega
theorem tk_l {n : Nat} (hn : n < 2 ^ 31) : ∀ (m k f i : Nat) (u : Int32) (x y : mm_S), i + m = n → m < k → m < f → R x y → x.1 12 = 0 → Q (okl_m_tick_29 f (nI n) u (nI i) y) (l_tick_31 k (nI n) u (nI i) x) (l_m_tick_29 f (nI n) u (nI i) y)
  | m, 0, f, i, u, x, y, _, h, _, _, _ => by omega
  | m, k + 1, 0, i, u, x, y, _, _, h, _, _ => by omega
  | 0, k + 1, f + 1, i, u, x, y, hi, _, _, h, _ => by
    rw [l_m_tick_29, okl_m_tick_29, l_tick_31, if_pos (le_t (by omega) (by omega)), if_pos (le_t (by omega) (by omega)), if_pos (le_t (by omega) (by omega))]
    exact ⟨trivial, rfl, h⟩
  | m + 1, k + 1, f + 1, i, u, x, y, hi, hk, hf, h, h12 => by
    have hV := h.2.2.2.2.1
    have hlt : ¬ nI n ≤ nI i := le_f (by omega) (by omega)
    by_cases c : x.1 4 = 0
    · have htr : e_m_isTrial y = 0 := by
        rcases rg_q hV with ⟨r1, r2, r3, r4⟩ | ⟨r1, r2, r3, r4, r5⟩ | ⟨r1, r2, r3, r4, r5⟩
        · exact r4
        · exact r5
        · exact absurd c r2
      obtain ⟨t1, t2⟩ := tk0 hn (u := u) htr (f + 1) i (by omega) (by omega)
      rw [t1, l_tick_31, if_neg hlt, if_pos (show x.1 4 ≤ 0 by rw [c]; decide)]
      exact ⟨t2, rfl, h⟩
    · rcases rg_q hV with ⟨r1, r2, r3, r4⟩ | ⟨r1, r2, r3, r4, r5⟩ | ⟨r1, r2, r3, r4, r5⟩
      · exact absurd r1 (hV.2.2.2.2.2.2.1 c)
      · exact absurd r2 c
      · have ht0 : ¬ (x.1 4).toInt = 0 := fun q => c ((eq_l (by decide)).mpr q)
        have ht1 : 1 ≤ (x.1 4).toInt := by
          have := hV.2.2.2.2.2.1.1
          omega
        have hle : ¬ x.1 4 ≤ 0 := by
          rw [le_l (k := 0) (by decide)]
          omega
        obtain ⟨hR1, e1⟩ := R_dec h r1 ht1
        rw [l_m_tick_29, okl_m_tick_29, l_tick_31, if_neg hlt, if_neg hlt, if_neg hlt, if_neg hle, if_neg r5, if_neg r5, nI_1]
        dsimp only
        have x12 : (mm_setI x 4 (x.1 4 - 1)).1 12 = 0 := h12
        have ev : (mm_setI y 104 (y.1 104 - 1)).1 104 = (mm_setI x 4 (x.1 4 - 1)).1 4 := hR1.2.2.2.2.1.2.1
        rw [ev]
        generalize mm_setI x 4 (x.1 4 - 1) = X at *
        generalize mm_setI y 104 (y.1 104 - 1) = Y at *
        by_cases c2 : X.1 4 = 0
        · rw [if_pos c2, if_pos c2, if_pos c2]
          have hR2 := R_5 hR1
          have y12 : (mm_setI X 7 (X.1 7 + 1)).1 12 = 0 := x12
          have eY : mm_setA Y 13 (upd (Y.2.2 13) (Int32.toNatClampNeg 5) (Y.2.2 13 (Int32.toNatClampNeg 5) + 1)) = cY Y 5 := rfl
          rw [eY]
          obtain ⟨o, e, r, b⟩ := q_booted hR2 y12
          generalize e_m_booted (cY Y 5) = q at *
          generalize e_bootUp (mm_setI X 7 (X.1 7 + 1)) = p at *
          rcases b with b | ⟨b, p12⟩
          · rw [if_pos b] at e
            rw [if_pos e, if_pos b, if_pos b]
            exact ⟨⟨vi 5 7 (by decide) (by decide), vi 5 7 (by decide) (by decide), o, trivial⟩, rfl, r⟩
          · have bn : ¬ q.1 = 0 := by
              rw [b]
              exact n10
            rw [if_neg bn] at e
            have pn : ¬ p.1 = -106 := by
              rw [e, r.2.2.2.2.1.1]
              rcases r.2.2.2.2.1.2.2.2.2.1 with w | w | w <;> rw [w] <;> decide
            rw [if_neg pn, if_neg bn, if_neg bn]
            obtain ⟨w1, w2⟩ := tk_l hn m k f (i + 1) (u + 1) p.2 q.2 (by omega) (by omega) (by omega) r p12
            exact ⟨⟨vi 5 7 (by decide) (by decide), vi 5 7 (by decide) (by decide), o, w1⟩, w2⟩
        · rw [if_neg c2, if_neg c2, if_neg c2]
          exact tk_l hn m k f (i + 1) u X Y (by omega) (by omega) (by omega) hR1 x12
theorem q_tick {x y : mm_S} {v0 : Int32} (h : R x y) : Q (ok_m_tick v0 y) (e_tick v0 x) (e_m_tick v0 y) := by
  have i1 : e_m_in (Int32.toInt64 v0) 1 100 y = 0 ↔ ¬ (1 ≤ v0.toInt ∧ v0.toInt ≤ 100) := in_q (by decide) (by decide)
  have a1 : v0 < 1 ↔ v0.toInt < 1 := lt_l (by decide)
  have a2 : v0 ≤ 100 ↔ v0.toInt ≤ 100 := le_l (by decide)
  unfold ok_m_tick e_tick e_m_tick
  rw [h.2.2.2.1.1]
  by_cases c0 : x.1 12 = 0
  · rw [if_pos c0, if_pos c0, if_pos c0]
    by_cases c1 : v0.toInt < 1
    · rw [if_pos (a1.mpr c1), if_pos (i1.mpr (by omega)), if_pos (i1.mpr (by omega))]
      exact ⟨trivial, rfl, h⟩
    · rw [if_neg (fun q => c1 (a1.mp q))]
      by_cases c2 : v0.toInt ≤ 100
      · rw [if_pos (a2.mpr c2), if_neg (fun q => i1.mp q (by omega)), if_neg (fun q => i1.mp q (by omega))]
        obtain ⟨n, hn, rfl⟩ : ∃ n, n ≤ 100 ∧ v0 = nI n := ⟨v0.toInt.toNat, by omega, ni_of (by omega)⟩
        have hf := fu_k (m := n) (by omega)
        exact tk_l (by omega) n _ _ 0 0 x y (by omega) hf hf h c0
      · rw [if_neg (fun q => c2 (a2.mp q)), if_pos (i1.mpr (by omega)), if_pos (i1.mpr (by omega))]
        exact ⟨trivial, rfl, h⟩
  · rw [if_neg c0, if_neg c0, if_neg c0]
    exact ⟨trivial, rfl, h⟩
