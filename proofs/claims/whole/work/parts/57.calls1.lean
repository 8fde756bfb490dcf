/-! The calls, one by one: answers alike, the relation kept. -/
def Q (ok : Prop) (p q : Int32 × mm_S) : Prop := ok ∧ p.1 = q.1 ∧ R p.2 q.2
theorem lt_l {v w : Int32} {k : Int} (h : w.toInt = k) : v < w ↔ v.toInt < k := by rw [Int32.lt_iff_toInt_lt, h]
theorem lt_r {v w : Int32} {k : Int} (h : w.toInt = k) : w < v ↔ k < v.toInt := by rw [Int32.lt_iff_toInt_lt, h]
theorem le_l {v w : Int32} {k : Int} (h : w.toInt = k) : v ≤ w ↔ v.toInt ≤ k := by rw [Int32.le_iff_toInt_le, h]
theorem le_r {v w : Int32} {k : Int} (h : w.toInt = k) : w ≤ v ↔ k ≤ v.toInt := by rw [Int32.le_iff_toInt_le, h]
theorem eq_l {v w : Int32} {k : Int} (h : w.toInt = k) : v = w ↔ v.toInt = k := by rw [← Int32.toInt_inj, h]
theorem in_q {v : Int32} {a b : Int64} {A B : Int} {y : mm_S} (ha : a.toInt = A) (hb : b.toInt = B) : e_m_in (Int32.toInt64 v) a b y = 0 ↔ ¬ (A ≤ v.toInt ∧ v.toInt ≤ B) := by
  rw [pu_in, Int32.toInt_toInt64, ha, hb]
theorem q_make {x y : mm_S} {v0 v1 v2 v3 : Int32} (h : R x y) : Q True (e_make v0 v1 v2 v3 x) (e_m_make v0 v1 v2 v3 y) := by
  have i1 : e_m_in (Int32.toInt64 v1) 1 30 y = 0 ↔ ¬ (1 ≤ v1.toInt ∧ v1.toInt ≤ 30) := in_q (by decide) (by decide)
  have i2 : e_m_in (Int32.toInt64 v2) 0 3 y = 0 ↔ ¬ (0 ≤ v2.toInt ∧ v2.toInt ≤ 3) := in_q (by decide) (by decide)
  have a1 : v1 < 1 ↔ v1.toInt < 1 := lt_l (by decide)
  have a2 : 30 < v1 ↔ 30 < v1.toInt := lt_r (by decide)
  have a3 : v2 < 0 ↔ v2.toInt < 0 := lt_l (by decide)
  have a4 : v2 < 4 ↔ v2.toInt < 4 := lt_l (by decide)
  unfold e_make e_m_make
  by_cases c1 : v1.toInt < 1
  · rw [if_pos (a1.mpr c1), if_pos (i1.mpr (by omega))]
    exact ⟨trivial, rfl, h⟩
  · rw [if_neg (fun q => c1 (a1.mp q))]
    by_cases c2 : 30 < v1.toInt
    · rw [if_pos (a2.mpr c2), if_pos (i1.mpr (by omega))]
      exact ⟨trivial, rfl, h⟩
    · rw [if_neg (fun q => c2 (a2.mp q)), if_neg (fun q => i1.mp q (by omega))]
      by_cases c3 : v2.toInt < 0
      · rw [if_pos (a3.mpr c3), if_pos (i2.mpr (by omega))]
        exact ⟨trivial, rfl, h⟩
      · rw [if_neg (fun q => c3 (a3.mp q))]
        by_cases c4 : v2.toInt < 4
        · rw [if_pos (a4.mpr c4), if_neg (fun q => i2.mp q (by omega))]
          obtain ⟨hA, hC, hM, hP, hV, hL⟩ := h
          refine ⟨trivial, rfl, RA_c hA rfl rfl rfl rfl rfl rfl, RC_c hC rfl rfl rfl rfl rfl rfl rfl rfl, ⟨rfl, rfl, rfl, rfl, hM.2.2.2.2.1, ?_, ?_⟩, RP_c hP rfl rfl rfl rfl rfl rfl, RV_c hV rfl rfl rfl rfl rfl rfl rfl rfl rfl rfl rfl, LG_cx hL rfl rfl rfl rfl rfl rfl rfl rfl⟩
          · show 0 ≤ v1.toInt ∧ v1.toInt ≤ 30
            omega
          · show 0 ≤ v2.toInt ∧ v2.toInt ≤ 3
            omega
        · rw [if_neg (fun q => c4 (a4.mp q)), if_pos (i2.mpr (by omega))]
          exact ⟨trivial, rfl, h⟩
theorem q_cut {x y : mm_S} {v0 v1 : Int32} (h : R x y) : Q True (e_cut v0 v1 x) (e_m_cut v0 v1 y) := by
  have i1 : e_m_in (Int32.toInt64 v0) (-1) 1000 y = 0 ↔ ¬ (-1 ≤ v0.toInt ∧ v0.toInt ≤ 1000) := in_q (by decide) (by decide)
  have i2 : e_m_in (Int32.toInt64 v1) 0 63 y = 0 ↔ ¬ (0 ≤ v1.toInt ∧ v1.toInt ≤ 63) := in_q (by decide) (by decide)
  have a1 : v0 < -1 ↔ v0.toInt < -1 := lt_l (by decide)
  have a2 : 1000 < v0 ↔ 1000 < v0.toInt := lt_r (by decide)
  have a3 : v1 < 0 ↔ v1.toInt < 0 := lt_l (by decide)
  have a4 : v1 < 64 ↔ v1.toInt < 64 := lt_l (by decide)
  have hd := h.2.2.2.1.1
  unfold e_cut e_m_cut
  rw [hd]
  by_cases c0 : x.1 12 = 0
  · rw [if_pos c0, if_pos c0]
    by_cases c1 : v0.toInt < -1
    · rw [if_pos (a1.mpr c1), if_pos (i1.mpr (by omega))]
      exact ⟨trivial, rfl, h⟩
    · rw [if_neg (fun q => c1 (a1.mp q))]
      by_cases c2 : 1000 < v0.toInt
      · rw [if_pos (a2.mpr c2), if_pos (i1.mpr (by omega))]
        exact ⟨trivial, rfl, h⟩
      · rw [if_neg (fun q => c2 (a2.mp q)), if_neg (fun q => i1.mp q (by omega))]
        by_cases c3 : v1.toInt < 0
        · rw [if_pos (a3.mpr c3), if_pos (i2.mpr (by omega))]
          exact ⟨trivial, rfl, h⟩
        · rw [if_neg (fun q => c3 (a3.mp q))]
          by_cases c4 : v1.toInt < 64
          · rw [if_pos (a4.mpr c4), if_neg (fun q => i2.mp q (by omega))]
            obtain ⟨hA, hC, hM, hP, hV, hL⟩ := h
            refine ⟨trivial, rfl, RA_c hA rfl rfl rfl rfl rfl rfl, RC_c hC rfl rfl rfl rfl rfl rfl rfl rfl, RM_c hM rfl rfl rfl rfl rfl rfl rfl rfl rfl rfl, ⟨hP.1, hP.2.1, rfl, ?_, rfl, ?_, ?_, fun q => absurd (c0.symm.trans q) (by decide)⟩, RV_c hV rfl rfl rfl rfl rfl rfl rfl rfl rfl rfl rfl, LG_cx hL rfl rfl rfl rfl rfl rfl rfl rfl⟩
            · show -1 ≤ v0.toInt
              omega
            · show 0 ≤ v1.toInt
              omega
            · show v1.toInt < 64
              omega
          · rw [if_neg (fun q => c4 (a4.mp q)), if_pos (i2.mpr (by omega))]
            exact ⟨trivial, rfl, h⟩
  · rw [if_neg c0, if_neg c0]
    exact ⟨trivial, rfl, h⟩
theorem q_start {x y : mm_S} (h : R x y) : Q True (e_start x) (e_m_start y) := by
  have hd := h.2.2.2.1.1
  unfold e_start e_m_start
  rw [hd]
  by_cases c0 : x.1 12 = 0
  · rw [if_pos c0, if_pos c0]
    exact ⟨trivial, rfl, h⟩
  · rw [if_neg c0, if_neg c0]
    obtain ⟨hA, hC, hM, hP, hV, hL⟩ := h
    have h1 : x.1 12 = 1 := hP.2.1.resolve_left c0
    have h2 : x.1 10 = -1 := hP.2.2.2.2.2.2.2 h1
    refine ⟨trivial, rfl, RA_c hA rfl rfl rfl rfl rfl rfl, RC_c hC rfl rfl rfl rfl rfl rfl rfl rfl, RM_c hM rfl rfl rfl rfl rfl rfl rfl rfl rfl rfl, ⟨rfl, Or.inl rfl, ?_, hP.2.2.2.1, hP.2.2.2.2.1, hP.2.2.2.2.2.1, hP.2.2.2.2.2.2.1, fun q => absurd (show (0 : Int32) = 1 from q) (by decide)⟩, RV_c hV rfl rfl rfl rfl rfl rfl rfl rfl rfl rfl rfl, LG_cx hL rfl rfl rfl rfl rfl rfl rfl rfl⟩
    exact h2.symm
theorem q_running {x y : mm_S} (h : R x y) : e_running x = e_m_running y := by
  unfold e_running e_m_running
  rw [h.2.2.2.1.1, h.2.2.2.2.1.1]
theorem q_watchdog {x y : mm_S} (h : R x y) : e_watchdog x = e_m_watchdog y := by
  unfold e_watchdog e_m_watchdog
  rw [h.2.2.2.1.1, h.2.2.2.2.1.2.1]
theorem b_q {x y : mm_S} {v0 v1 : Int32} : (e_inflash v0 v1 x = 0 ∧ e_m_isByte v0 v1 y = 0) ∨ (¬ e_inflash v0 v1 x = 0 ∧ ¬ e_m_isByte v0 v1 y = 0 ∧ ∃ s i : Nat, s < 64 ∧ i < 64 ∧ v0 = nI s ∧ v1 = nI i) := by
  have i1 : e_m_in (Int32.toInt64 v0) 0 63 y = 0 ↔ ¬ (0 ≤ v0.toInt ∧ v0.toInt ≤ 63) := in_q (by decide) (by decide)
  have i2 : e_m_in (Int32.toInt64 v1) 0 63 y = 0 ↔ ¬ (0 ≤ v1.toInt ∧ v1.toInt ≤ 63) := in_q (by decide) (by decide)
  have a1 : v0 < 0 ↔ v0.toInt < 0 := lt_l (by decide)
  have a2 : 64 ≤ v0 ↔ 64 ≤ v0.toInt := le_r (by decide)
  have a3 : v1 < 0 ↔ v1.toInt < 0 := lt_l (by decide)
  have a4 : 64 ≤ v1 ↔ 64 ≤ v1.toInt := le_r (by decide)
  unfold e_inflash e_m_isByte
  by_cases c1 : v0.toInt < 0
  · rw [if_pos (a1.mpr c1), if_pos (i1.mpr (by omega))]
    exact Or.inl ⟨rfl, rfl⟩
  · rw [if_neg (fun q => c1 (a1.mp q))]
    by_cases c2 : 64 ≤ v0.toInt
    · rw [if_pos (a2.mpr c2), if_pos (i1.mpr (by omega))]
      exact Or.inl ⟨rfl, rfl⟩
    · rw [if_neg (fun q => c2 (a2.mp q)), if_neg (fun q => i1.mp q (by omega))]
      by_cases c3 : v1.toInt < 0
      · rw [if_pos (a3.mpr c3), if_pos (i2.mpr (by omega))]
        exact Or.inl ⟨rfl, rfl⟩
      · rw [if_neg (fun q => c3 (a3.mp q))]
        by_cases c4 : 64 ≤ v1.toInt
        · rw [if_pos (a4.mpr c4), if_pos (i2.mpr (by omega))]
          exact Or.inl ⟨rfl, rfl⟩
        · rw [if_neg (fun q => c4 (a4.mp q)), if_neg (fun q => i2.mp q (by omega))]
          exact Or.inr ⟨by decide, by decide, v0.toInt.toNat, v1.toInt.toNat, by omega, by omega, ni_of (by omega), ni_of (by omega)⟩
theorem q_octet {x y : mm_S} {v0 v1 : Int32} (h : R x y) : ok_m_octet v0 v1 y ∧ e_octet v0 v1 x = e_m_octet v0 v1 y := by
  unfold ok_m_octet e_octet e_m_octet
  rcases b_q (x := x) (y := y) (v0 := v0) (v1 := v1) with ⟨h1, h2⟩ | ⟨h1, h2, s, i, hs, hi, rfl, rfl⟩
  · rw [if_pos h1, if_pos h2, if_pos h2]
    exact ⟨trivial, rfl⟩
  · rw [if_neg h1, if_neg h2, if_neg h2, ml, ml2, bF (by omega), pu_clamp (by omega)]
    exact ⟨⟨nI_in (by omega) (by decide), trivial⟩, (h.1.1 _ (by omega)).symm⟩
theorem xo_q (a m : Int32) : (a &&& 255) ^^^ (m &&& 255) = ((a &&& 255) ^^^ m) &&& 255 := by
  apply Int32.toBitVec_inj.mp
  show (a.toBitVec &&& 255#32) ^^^ (m.toBitVec &&& 255#32) = ((a.toBitVec &&& 255#32) ^^^ m.toBitVec) &&& 255#32
  ext i hi
  simp only [BitVec.getElem_xor, BitVec.getElem_and]
  cases a.toBitVec[i] <;> cases m.toBitVec[i] <;> cases (255#32)[i] <;> rfl
theorem RA_f {x y : mm_S} {p : Nat} {v w : Int32} (h : RA x y) (hv : w = v &&& 255) : RA (mm_setA x 1 (upd (x.2.2 1) p v)) (mm_setA y 10 (upd (y.2.2 10) p w)) := by
  refine ⟨fun j hj => ?_, h.2.1, h.2.2⟩
  rw [gAs, gAs]
  by_cases hp : j = p
  · subst hp
    rw [upd_s, upd_s]
    exact hv
  · rw [upd_n hp, upd_n hp]
    exact h.1 j hj
theorem q_rot {x y : mm_S} {v0 v1 v2 : Int32} (h : R x y) : Q (ok_m_rot v0 v1 v2 y) (e_rot v0 v1 v2 x) (e_m_rot v0 v1 v2 y) := by
  unfold ok_m_rot e_rot e_m_rot
  rcases b_q (x := x) (y := y) (v0 := v0) (v1 := v1) with ⟨h1, h2⟩ | ⟨h1, h2, s, i, hs, hi, rfl, rfl⟩
  · rw [if_pos h1, if_pos h2, if_pos h2]
    exact ⟨trivial, rfl, h⟩
  · rw [if_neg h1, if_neg h2, if_neg h2]
    dsimp only
    rw [ml, ml2, bF (by omega), bF (by omega), pb (by omega) (by decide), pu_clamp (by omega)]
    have hin : vp_in (nI (64 * s + i)) 4096 := nI_in (by omega) (by decide)
    obtain ⟨hA, hC, hM, hP, hV, hL⟩ := h
    have hw : (y.2.2 10 (64 * s + i)) ^^^ (v2 &&& 255) = bt (gF x (64 * s + i) ^^^ v2) &&& 255 := by
      rw [bt_255, hA.1 _ (by omega)]
      exact xo_q _ _
    have hA2 := RA_f (p := 64 * s + i) hA hw
    generalize hX : mm_setA x 1 (upd (x.2.2 1) (64 * s + i) (bt (gF x (64 * s + i) ^^^ v2))) = X at *
    have eX : X.1 = x.1 := by rw [← hX]; rfl
    have eX2 : X.2.1 = x.2.1 := by rw [← hX]; rfl
    obtain ⟨l1, l2, l3⟩ := lk X
    have c1 : (e_look X).2.2 = X.2.2 := by rw [l2]
    have c0 : (e_look X).2.1 = X.2.1 := by rw [l2]
    have k : ∀ r, r < 21 ∨ 27 < r → (e_look X).1 r = x.1 r := fun r hr => (l3 r hr).trans (by rw [eX])
    generalize e_look X = P at *
    have hA3 : RA P (mm_setA y 10 (upd (y.2.2 10) (64 * s + i) ((y.2.2 10 (64 * s + i)) ^^^ (v2 &&& 255)))) := RA_c hA2 (by rw [c1]) (by rw [c1]) (by rw [c1]) rfl rfl rfl
    refine ⟨⟨hin, hin, hin, trivial⟩, (hA3.1 _ (by omega)).symm, hA3, RC_c hC rfl (k 13 (by decide)) (k 14 (by decide)) (k 20 (by decide)) (k 5 (by decide)) (k 6 (by decide)) (k 7 (by decide)) (k 8 (by decide)), RM_c hM (k 30 (by decide)) (k 31 (by decide)) (k 32 (by decide)) (k 33 (by decide)) (by rw [c0, eX2]) rfl rfl rfl rfl rfl, RP_c hP (k 12 (by decide)) (k 10 (by decide)) (k 11 (by decide)) rfl rfl rfl, RV_c hV (k 0 (by decide)) (k 1 (by decide)) (k 2 (by decide)) (k 3 (by decide)) (k 4 (by decide)) rfl rfl rfl rfl rfl rfl, l1⟩
