/-! pack. -/
theorem R_tp {x y X Y : mm_S} {F G : Nat → Int32} (h : R x y) (e0 : X.1 = x.1) (e1 : X.2.1 = x.2.1) (e2 : X.2.2 1 = x.2.2 1) (e3 : X.2.2 4 = x.2.2 4) (f0 : Y.1 = y.1) (f1 : Y.2.1 = y.2.1) (f2 : Y.2.2 10 = y.2.2 10) (f3 : Y.2.2 12 = y.2.2 12) (f4 : Y.2.2 13 = y.2.2 13) (hFG : ∀ j, j < 64 → G j = F j &&& 255) : R (mm_setI (mm_setA X 0 F) 0 64) (mm_setI (mm_setA Y 11 G) 105 64) := by
  obtain ⟨hA, hC, hM, hP, ⟨v1, v2, v3, v4, v5, v6, v7, v8, v9⟩, hL⟩ := h
  have a : ∀ r, ¬ r = 0 → (mm_setI (mm_setA X 0 F) 0 64).1 r = x.1 r := fun r hr => (upd_n hr).trans (by show X.1 r = x.1 r; rw [e0])
  have b : ∀ r, ¬ r = 105 → (mm_setI (mm_setA Y 11 G) 105 64).1 r = y.1 r := fun r hr => (upd_n hr).trans (by show Y.1 r = y.1 r; rw [f0])
  refine ⟨⟨fun j hj => ?_, fun j hj => ?_, fun j hj => ?_⟩, RC_c hC f4 (a 13 (by decide)) (a 14 (by decide)) (a 20 (by decide)) (a 5 (by decide)) (a 6 (by decide)) (a 7 (by decide)) (a 8 (by decide)), RM_c hM (a 30 (by decide)) (a 31 (by decide)) (a 32 (by decide)) (a 33 (by decide)) (by show X.2.1 0 = _; rw [e1]) (b 108 (by decide)) (b 109 (by decide)) (b 110 (by decide)) (b 111 (by decide)) (by show Y.2.1 10 = _; rw [f1]), RP_c hP (a 12 (by decide)) (a 10 (by decide)) (a 11 (by decide)) (b 100 (by decide)) (b 101 (by decide)) (b 102 (by decide)), ⟨?_, ?_, rfl, ?_, ?_, ?_, ?_, Or.inr rfl, RO_c v9 (a 1 (by decide)) (a 2 (by decide)) (b 107 (by decide)) f3⟩, LG_cx hL e2 (a 21 (by decide)) (a 22 (by decide)) (a 23 (by decide)) (a 24 (by decide)) (a 25 (by decide)) (a 26 (by decide)) (a 27 (by decide))⟩
  · show Y.2.2 10 j = X.2.2 1 j &&& 255
    rw [f2, e2]
    exact hA.1 j hj
  · exact hFG j hj
  · show Y.2.2 12 j = X.2.2 4 j &&& 255
    rw [f3, e3]
    exact hA.2.2 j hj
  · rw [a 3 (by decide), b 103 (by decide)]
    exact v1
  · rw [a 4 (by decide), b 104 (by decide)]
    exact v2
  · rw [a 1 (by decide), b 106 (by decide)]
    exact v4
  · rw [a 3 (by decide)]
    exact v5
  · rw [a 4 (by decide)]
    exact v6
  · rw [a 3 (by decide), a 4 (by decide)]
    exact v7
theorem hc1 {x : mm_S} {v0 v1 v2 : Int32} {v3 v4 : Int64} : (e_hs_compose v0 v1 v2 v3 v4 x).1 = x.1 ∧ (e_hs_compose v0 v1 v2 v3 v4 x).2.1 = x.2.1 ∧ ∀ r, ¬ r = 3 → (e_hs_compose v0 v1 v2 v3 v4 x).2.2 r = x.2.2 r := by
  rw [hc_c]
  exact ⟨rfl, rfl, fun r h => gAn h⟩
theorem hm1 {y : mm_S} {v0 v1 v2 : Int32} {v3 : Int64} : (e_m_header v0 v1 v2 v3 y).1 = y.1 ∧ (e_m_header v0 v1 v2 v3 y).2.1 = y.2.1 ∧ ∀ r, ¬ r = 14 → (e_m_header v0 v1 v2 v3 y).2.2 r = y.2.2 r := by
  rw [hc_m]
  exact ⟨rfl, rfl, fun r h => gAn h⟩
theorem q_pack {x y : mm_S} {v0 : Int32} (h : R x y) : Q (ok_m_pack v0 y) (e_pack v0 x) (e_m_pack v0 y) := by
  have h' := h
  obtain ⟨hA, hC, ⟨m1, m2, m3, m4, m5, m6, m7⟩, hP, hV, hL⟩ := h'
  have e1 : (Int32.toInt64 (y.1 109 - 1)).toInt = (x.1 31).toInt - 1 := by
    rw [Int32.toInt_toInt64, m2]
    exact sb_q (by rw [mm_1]) (by omega) (by omega)
  have i1 : e_m_in (Int32.toInt64 v0) (-1) (Int32.toInt64 (y.1 109 - 1)) y = 0 ↔ ¬ (-1 ≤ v0.toInt ∧ v0.toInt ≤ (x.1 31).toInt - 1) := in_q (by decide) e1
  have a1 : v0 < -1 ↔ v0.toInt < -1 := lt_l (by decide)
  have a2 : x.1 31 ≤ v0 ↔ (x.1 31).toInt ≤ v0.toInt := Int32.le_iff_toInt_le
  have a3 : x.1 31 = 0 ↔ (x.1 31).toInt = 0 := eq_l (by decide)
  have a4 : v0 = -1 ↔ v0.toInt = -1 := eq_l (by decide)
  unfold ok_m_pack e_pack e_m_pack
  by_cases c3 : x.1 31 = 0
  · have c3' : y.1 109 = 0 := m2.trans c3
    rw [if_pos c3', if_pos c3']
    refine ⟨trivial, ?_⟩
    split
    · exact ⟨rfl, h⟩
    · split
      · exact ⟨rfl, h⟩
      · exact ⟨rfl, h⟩
  · have c3' : ¬ y.1 109 = 0 := fun q => c3 (m2.symm.trans q)
    rw [if_neg c3', if_neg c3']
    by_cases c1 : v0.toInt < -1
    · rw [if_pos (a1.mpr c1), if_pos (i1.mpr (by omega)), if_pos (i1.mpr (by omega))]
      exact ⟨trivial, rfl, h⟩
    · rw [if_neg (fun q => c1 (a1.mp q))]
      by_cases c2 : (x.1 31).toInt ≤ v0.toInt
      · rw [if_pos (a2.mpr c2), if_pos (i1.mpr (by omega)), if_pos (i1.mpr (by omega))]
        exact ⟨trivial, rfl, h⟩
      · rw [if_neg (fun q => c2 (a2.mp q)), if_neg c3, if_neg (fun q => i1.mp q (by omega)), if_neg (fun q => i1.mp q (by omega))]
        obtain ⟨n, hn, en⟩ : ∃ n, n ≤ 30 ∧ x.1 31 = nI n := ⟨(x.1 31).toInt.toNat, by omega, ni_of m6.1⟩
        obtain ⟨kk, hkk, ek⟩ : ∃ k, k ≤ 3 ∧ x.1 32 = nI k := ⟨(x.1 32).toInt.toNat, by omega, ni_of m7.1⟩
        by_cases c4 : v0 = -1
        · rw [if_pos c4, if_pos c4, if_pos c4]
          have em : y.1 109 = nI (0 + n) := by
            rw [m2, en, Nat.zero_add]
          obtain ⟨p1, p2⟩ := p46_l (u1 := v0) (y := y) n (mm_fu 0 (y.1 109)) 0 ((Int32.toInt64 (y.1 108)) &&& (4294967295 : Int64)) em (by omega) (by rw [em, Nat.zero_add]; exact fu_k (by omega))
          have p1' : l_m_pack_46 (mm_fu 0 (y.1 109)) v0 ((Int32.toInt64 (y.1 108)) &&& (4294967295 : Int64)) 0 y = _ := p1
          have p2' : okl_m_pack_46 (mm_fu 0 (y.1 109)) v0 ((Int32.toInt64 (y.1 108)) &&& (4294967295 : Int64)) 0 y := p2
          obtain ⟨F, hF⟩ := md_l n (mm_fu 0 (x.1 31)) 0 ((Int32.toInt64 (x.1 30)) &&& (4294967295 : Int64)) x (by rw [en, Nat.zero_add]) (by omega) (by rw [en]; exact fu_k (by omega))
          have hF' : e_mbdigest 64 0 x = (bdf (bst (x.1 33)) n 0 ((Int32.toInt64 (x.1 30)) &&& (4294967295 : Int64)), mm_setA x 0 F) := by
            unfold e_mbdigest e_wos
            exact hF
          dsimp only
          rw [hF', p1', p109_l]
          dsimp only
          refine ⟨p2', ?_⟩
          have eR : y.1 108 = x.1 30 ∧ y.1 109 = x.1 31 ∧ y.1 110 = x.1 32 ∧ y.1 111 = x.1 33 := ⟨m1, m2, m3, m4⟩
          rw [m1, m2, m3, m4]
          generalize bdf (bst (x.1 33)) n 0 ((Int32.toInt64 (x.1 30)) &&& (4294967295 : Int64)) = B
          have hq := hd_q (x := mm_setA x 0 F) (y := y) (v0 := x.1 30) (v1 := x.1 31) (v2 := x.1 32) (v3 := B) (v4 := e_keyNumber (x.1 32) (mm_setA x 0 F)) (by
            rw [ek]
            have : kk = 0 ∨ kk = 1 ∨ kk = 2 ∨ kk = 3 := by omega
            rcases this with q | q | q | q <;> subst q <;> decide) (by
            unfold e_keyNumber e_m_numberOf
            rw [m5]
            rfl)
          obtain ⟨s1, s2, s3⟩ := hc1 (x := mm_setA x 0 F) (v0 := x.1 30) (v1 := x.1 31) (v2 := x.1 32) (v3 := B) (v4 := e_keyNumber (x.1 32) (mm_setA x 0 F))
          obtain ⟨t1, t2, t3⟩ := hm1 (y := y) (v0 := x.1 30) (v1 := x.1 31) (v2 := x.1 32) (v3 := B)
          generalize hZ : e_hs_compose (x.1 30) (x.1 31) (x.1 32) B (e_keyNumber (x.1 32) (mm_setA x 0 F)) (mm_setA x 0 F) = Z at *
          generalize e_m_header (x.1 30) (x.1 31) (x.1 32) B y = W at *
          have hcs := cs_l (n0 := 64) (r0 := 3) (n2 := 64) (r2 := 0) (a := 0) (c := 0) (by decide) (by decide) (by decide) (by decide) (by decide) Z
          simp only [Nat.zero_add] at hcs
          have hcs' : e_copySector 64 3 0 64 0 0 Z = mm_setA Z 0 (wr (Z.2.2 0) 0 64 (fun t => bt (Z.2.2 3 t &&& 255))) := hcs
          have hZ' : e_hs_compose ((mm_setA x 0 F).1 30) ((mm_setA x 0 F).1 31) ((mm_setA x 0 F).1 32) B (e_keyNumber ((mm_setA x 0 F).1 32) (mm_setA x 0 F)) (mm_setA x 0 F) = Z := hZ
          rw [hZ', hcs']
          refine ⟨rfl, R_tp h s1 s2 (s3 1 (by decide)) (s3 4 (by decide)) t1 t2 (t3 10 (by decide)) (t3 12 (by decide)) (t3 13 (by decide)) (fun j hj => ?_)⟩
          rw [wr_in (by omega) (by omega), wr_in (by omega) (by omega), if_pos c4, bt_255, pu_and, Nat.sub_zero]
          exact hq j hj
        · rw [if_neg c4, if_neg c4, if_neg c4]
          have c4' : ¬ v0.toInt = -1 := fun q => c4 (a4.mpr q)
          obtain ⟨i, hi, rfl⟩ : ∃ i, i < 30 ∧ v0 = nI i := ⟨v0.toInt.toNat, by omega, ni_of (by omega)⟩
          dsimp only
          rw [lb_l, p109_l]
          refine ⟨o109_l _ _, rfl, R_tp h rfl rfl rfl rfl rfl rfl rfl rfl rfl (fun j hj => ?_)⟩
          rw [wr_in (by omega) (by omega), if_neg c4, lb_g hj, Nat.sub_zero, ← m4]
          rfl
