/-! A write: the class's bnw, erase, pline beside the reference's goes, erased, programmed. -/
theorem ni_of {v : Int32} (h : 0 ≤ v.toInt) : v = nI v.toInt.toNat := by
  apply Int32.toInt_inj.mp
  have := mm_hi v
  rw [nI_toInt (by omega)]
  omega
theorem te_64 : ∀ t, t < 64 → nI t &&& (nI 64 - 1) = nI t ∧ nI t - nI t / nI 64 * nI 64 = nI t := by decide +kernel
theorem te_16 : ∀ t, t < 64 → nI t &&& (nI 16 - 1) = nI (t % 16) ∧ nI t - nI t / nI 16 * nI 16 = nI (t % 16) := by decide +kernel
theorem bn_a {v : Int32} {x : mm_S} (h : x.1 10 = -1) : e_bnw v x = (v, mm_setI x 13 (x.1 13 + 1)) := mm_ifp h rfl
theorem bn_b {v : Int32} {x : mm_S} (h : ¬ x.1 10 = -1) (h2 : ¬ x.1 10 - 1 = -1) : e_bnw v x = (v, mm_setI (mm_setI x 13 (x.1 13 + 1)) 10 (x.1 10 - 1)) := mm_ifn h (mm_ifn h2 rfl)
theorem bn_c {v : Int32} {x : mm_S} (h : ¬ x.1 10 = -1) (h2 : x.1 10 - 1 = -1) : e_bnw v x = (x.1 11 &&& (v - 1), mm_setI (mm_setI (mm_setI x 13 (x.1 13 + 1)) 10 (x.1 10 - 1)) 12 1) := mm_ifn h (mm_ifp h2 rfl)
def cY (y : mm_S) (i : Nat) : mm_S := mm_setA y 13 (upd (y.2.2 13) i (y.2.2 13 i + 1))
theorem go_a {v : Int32} {y : mm_S} (h : y.1 101 = -1) : e_m_goes v y = (v, mm_setI (cY y 0) 101 (-1)) := mm_ifn (show ¬ y.1 101 = 0 by rw [h]; decide) (mm_ifp (show y.1 101 ≤ -1 by rw [h]; decide) rfl)
theorem go_b {v : Int32} {y : mm_S} (h : ¬ y.1 101 = 0) (h2 : ¬ y.1 101 ≤ -1) : e_m_goes v y = (v, mm_setI (cY y 0) 101 (y.1 101 - 1)) := mm_ifn h (mm_ifn h2 rfl)
def gone (y : mm_S) : mm_S := mm_setI (mm_setI (mm_setI (mm_setI (mm_setI (mm_setI (mm_setI (cY y 0) 101 (y.1 101 - 1)) 100 1) 101 (-1)) 103 (-1)) 104 0) 106 (-1)) 105 0
theorem go_c {v : Int32} {y : mm_S} (h : y.1 101 = 0) : e_m_goes v y = (y.1 102 - y.1 102 / v * v, gone y) := mm_ifp h (mm_ifn (show ¬ y.1 101 ≤ -1 by rw [h]; decide) rfl)
theorem vi (n N : Nat) (h : n < N) (hN : N < 2 ^ 31) : vp_in (nI n) N := nI_in h hN
theorem go_ok {v : Int32} {y : mm_S} (hv : ¬ v = 0) : ok_m_goes v y := by
  unfold ok_m_goes
  refine ⟨vi 0 7 (by decide) (by decide), vi 0 7 (by decide) (by decide), ?_⟩
  dsimp only
  split
  · split
    · exact ⟨hv, trivial⟩
    · exact ⟨hv, trivial⟩
  · split <;> trivial

def WB (x y p q : mm_S) : Prop := RC p q ∧ RP p q ∧ p.2 = x.2 ∧ (∀ r, ¬ r = 10 → ¬ r = 12 → ¬ r = 13 → p.1 r = x.1 r) ∧ q.2.1 = y.2.1 ∧ (∀ r, ¬ r = 13 → q.2.2 r = y.2.2 r) ∧ (∀ r, r < 100 ∨ 106 < r → q.1 r = y.1 r) ∧ ((p.1 12 = 0 ∧ ∀ r, ¬ r = 101 → q.1 r = y.1 r) ∨ (p.1 12 = 1 ∧ q.1 103 = -1 ∧ q.1 104 = 0 ∧ q.1 105 = 0 ∧ q.1 106 = -1))
theorem RC_w {x y p q : mm_S} (h : RC x y) (e : q.2.2 13 = upd (y.2.2 13) 0 (y.2.2 13 0 + 1)) (e1 : p.1 13 = x.1 13 + 1) (e2 : p.1 14 = x.1 14) (e3 : p.1 20 = x.1 20) (e4 : p.1 5 = x.1 5) (e5 : p.1 6 = x.1 6) (e6 : p.1 7 = x.1 7) (e7 : p.1 8 = x.1 8) : RC p q := by
  obtain ⟨h1, h2, h3, h4, h5, h6, h7⟩ := h
  unfold RC
  rw [e, e1, e2, e3, e4, e5, e6, e7]
  exact ⟨by rw [upd_s, h1], by rw [upd_n (by decide), h2], by rw [upd_n (by decide), h3], by rw [upd_n (by decide), h4], by rw [upd_n (by decide), h5], by rw [upd_n (by decide), h6], by rw [upd_n (by decide), h7]⟩
theorem w1 {x y : mm_S} {n : Nat} (hn : n = 64 ∨ n = 16) (hC : RC x y) (hP : RP x y) (h12 : x.1 12 = 0) : ∃ (m : Nat) (p q : mm_S), e_bnw (nI n) x = (nI m, p) ∧ e_m_goes (nI n) y = (nI m, q) ∧ m ≤ n ∧ ok_m_goes (nI n) y ∧ WB x y p q := by
  have hok : ok_m_goes (nI n) y := go_ok (by rcases hn with h | h <;> subst h <;> decide)
  obtain ⟨q1, q2, q3, q4, q5, q6, q7, q8⟩ := hP
  by_cases h1 : x.1 10 = -1
  · have e : y.1 101 = -1 := q3.trans h1
    refine ⟨n, _, _, bn_a h1, go_a e, Nat.le_refl n, hok, RC_w hC rfl rfl rfl rfl rfl rfl rfl rfl, ⟨q1, q2, ?_, q4, q5, q6, q7, q8⟩, rfl, ?_, rfl, ?_, ?_, Or.inl ⟨h12, ?_⟩⟩
    · exact h1.symm
    · intro r _ _ h
      exact upd_n h
    · intro r h
      exact gAn h
    · intro r h
      exact upd_n (by omega)
    · intro r h
      exact upd_n h
  · have hne : 0 ≤ (x.1 10).toInt := by
      have : (x.1 10).toInt ≠ -1 := fun q => h1 (Int32.toInt_inj.mp q)
      omega
    have hs : (x.1 10 - 1).toInt = (x.1 10).toInt - 1 := by
      have := mm_hi (x.1 10)
      rw [mm_subI (by rw [mm_1]; omega) (by rw [mm_1]; omega), mm_1]
    by_cases h2 : x.1 10 - 1 = -1
    · have h0 : x.1 10 = 0 := by
        apply Int32.toInt_inj.mp
        have e := congrArg Int32.toInt h2
        rw [hs, show (-1 : Int32).toInt = -1 by decide] at e
        rw [show (0 : Int32).toInt = 0 by decide]
        omega
      have e : y.1 101 = 0 := q3.trans h0
      have et : x.1 11 = nI (x.1 11).toInt.toNat := ni_of q6
      have ht : (x.1 11).toInt.toNat < 64 := by omega
      have hx : ∃ m, m ≤ n ∧ x.1 11 &&& (nI n - 1) = nI m ∧ y.1 102 - y.1 102 / nI n * nI n = nI m := by
        rw [q5, et]
        rcases hn with h | h <;> subst h
        · exact ⟨_, by omega, te_64 _ ht⟩
        · exact ⟨_, by omega, te_16 _ ht⟩
      obtain ⟨m, hm, m1, m2⟩ := hx
      refine ⟨m, mm_setI (mm_setI (mm_setI x 13 (x.1 13 + 1)) 10 (x.1 10 - 1)) 12 1, gone y, by rw [bn_c h1 h2, m1], by rw [go_c e, m2], hm, hok, RC_w hC rfl rfl rfl rfl rfl rfl rfl rfl, ⟨rfl, Or.inr rfl, ?_, ?_, q5, q6, q7, fun _ => h2⟩, rfl, ?_, rfl, ?_, ?_, Or.inr ⟨rfl, rfl, rfl, rfl, rfl⟩⟩
      · exact h2.symm
      · show -1 ≤ (x.1 10 - 1).toInt
        rw [h2]
        decide
      · intro r h3 h4 h5
        show upd (upd (upd x.1 13 _) 10 _) 12 _ r = x.1 r
        rw [upd_n h4, upd_n h3, upd_n h5]
      · intro r h
        exact gAn h
      · intro r h
        show upd (upd (upd (upd (upd (upd (upd y.1 101 _) 100 _) 101 _) 103 _) 104 _) 106 _) 105 _ r = y.1 r
        rw [upd_n (by omega), upd_n (by omega), upd_n (by omega), upd_n (by omega), upd_n (by omega), upd_n (by omega), upd_n (by omega)]
    · have h0 : ¬ y.1 101 = 0 := fun q => h2 (by
        have : x.1 10 = 0 := q3.symm.trans q
        rw [this]
        decide)
      have h3 : ¬ y.1 101 ≤ -1 := by
        rw [q3, Int32.le_iff_toInt_le, show (-1 : Int32).toInt = -1 by decide]
        omega
      refine ⟨n, _, _, bn_b h1 h2, go_b h0 h3, Nat.le_refl n, hok, RC_w hC rfl rfl rfl rfl rfl rfl rfl rfl, ⟨q1, q2, ?_, ?_, q5, q6, q7, fun q => absurd (h12.symm.trans q) (by decide)⟩, rfl, ?_, rfl, ?_, ?_, Or.inl ⟨h12, ?_⟩⟩
      · show y.1 101 - 1 = x.1 10 - 1
        rw [q3]
      · show -1 ≤ (x.1 10 - 1).toInt
        omega
      · intro r h3 h4 h5
        show upd (upd x.1 13 _) 10 _ r = x.1 r
        rw [upd_n h3, upd_n h5]
      · intro r h
        exact gAn h
      · intro r h
        exact upd_n (by omega)
      · intro r h
        exact upd_n h
/-- a write done, or power gone at it -/
def WW (x y p q : mm_S) (b : Int32) : Prop := ((b = 1 ∧ p.1 12 = 0 ∧ ∀ r, ¬ r = 101 → q.1 r = y.1 r) ∨ (b = 0 ∧ p.1 12 = 1 ∧ q.1 103 = -1 ∧ q.1 104 = 0 ∧ q.1 105 = 0 ∧ q.1 106 = -1)) ∧ RA p q ∧ RC p q ∧ RM p q ∧ RP p q ∧ (∀ r, ¬ r = 10 → ¬ r = 12 → ¬ r = 13 → ¬ r = 14 → p.1 r = x.1 r) ∧ (∀ r, ¬ r = 1 → p.2.2 r = x.2.2 r) ∧ p.2.1 = x.2.1 ∧ (∀ r, ¬ r = 10 → ¬ r = 13 → q.2.2 r = y.2.2 r) ∧ q.2.1 = y.2.1 ∧ (∀ r, r < 100 ∨ 106 < r → q.1 r = y.1 r)
theorem WW_t {x y p q p' q' : mm_S} {b : Int32} (h : WW x y p q 1) (h' : WW p q p' q' b) : WW x y p' q' b := by
  obtain ⟨a1, -, -, -, -, a6, a7, a8, a9, a10, a11⟩ := h
  obtain ⟨b1, b2, b3, b4, b5, b6, b7, b8, b9, b10, b11⟩ := h'
  refine ⟨?_, b2, b3, b4, b5, fun r h1 h2 h3 h4 => (b6 r h1 h2 h3 h4).trans (a6 r h1 h2 h3 h4), fun r h1 => (b7 r h1).trans (a7 r h1), b8.trans a8, fun r h1 h2 => (b9 r h1 h2).trans (a9 r h1 h2), b10.trans a10, fun r h1 => (b11 r h1).trans (a11 r h1)⟩
  rcases a1 with ⟨-, -, a1⟩ | ⟨a1, -⟩
  · rcases b1 with ⟨c1, c2, c3⟩ | c
    · exact Or.inl ⟨c1, c2, fun r h1 => (c3 r h1).trans (a1 r h1)⟩
    · exact Or.inr c
  · exact absurd a1 (by decide)
/-- the bytes of a write: from WB to WW -/
theorem WB_W {x y p q : mm_S} {a m : Nat} {V W : Nat → Int32} (hA : RA x y) (hM : RM x y) (hB : WB x y p q) (hV : ∀ t, t < m → a + t < 4096 → W t = V t &&& 255) : WW x y (mm_setA p 1 (wr (p.2.2 1) a m V)) (mm_setA q 10 (wr (q.2.2 10) a m W)) (if p.1 12 = 0 then 1 else 0) := by
  obtain ⟨c1, c2, c3, c4, c5, c6, c7, c8⟩ := hB
  have e1 : p.2.2 = x.2.2 := by rw [c3]
  refine ⟨?_, ⟨?_, ?_, ?_⟩, RC_c c1 rfl rfl rfl rfl rfl rfl rfl rfl, RM_c hM (c4 30 (by decide) (by decide) (by decide)) (c4 31 (by decide) (by decide) (by decide)) (c4 32 (by decide) (by decide) (by decide)) (c4 33 (by decide) (by decide) (by decide)) (by show p.2.1 0 = _; rw [c3]) (c7 108 (by decide)) (c7 109 (by decide)) (c7 110 (by decide)) (c7 111 (by decide)) (by show q.2.1 10 = _; rw [c5]), RP_c c2 rfl rfl rfl rfl rfl rfl, fun r h1 h2 h3 _ => c4 r h1 h2 h3, fun r h => (gAn h).trans (by rw [e1]), ?_, fun r h1 h2 => (gAn h1).trans (c6 r h2), c5, c7⟩
  · rcases c8 with ⟨d1, d2⟩ | ⟨d1, d2⟩
    · exact Or.inl ⟨if_pos d1, d1, d2⟩
    · exact Or.inr ⟨if_neg (by rw [d1]; decide), d1, d2⟩
  · intro j hj
    rw [gAs, gAs]
    by_cases h : a ≤ j ∧ j < a + m
    · rw [wr_in h.1 h.2, wr_in h.1 h.2]
      exact hV _ (by omega) (by omega)
    · rw [wr_out (by omega), wr_out (by omega), c6 10 (by decide), e1]
      exact hA.1 j hj
  · intro j hj
    rw [gAn (by decide), gAn (by decide), c6 11 (by decide), e1]
    exact hA.2.1 j hj
  · intro j hj
    rw [gAn (by decide), gAn (by decide), c6 12 (by decide), e1]
    exact hA.2.2 j hj
  · show p.2.1 = x.2.1
    rw [c3]
