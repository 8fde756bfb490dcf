/-! At the beginning the relation holds. -/
theorem lf_s (k : Nat) (u2 : Int32) (x : mm_S) : l_layFirst_21 (k + 1) u2 x = if nI 16 ≤ u2 then e_look x else l_layFirst_21 k (u2 + 1) (e_putByte 4096 1 u2 (e_byteAt 16 2 u2 x) x) := by
  rw [l_layFirst_21]
  rfl
theorem lf_l (x : mm_S) : l_layFirst_21 (mm_fu 0 16) 0 x = e_look (mm_setA x 1 (wr (x.2.2 1) 0 16 (fun t => bt (x.2.2 2 t &&& 255)))) :=
  wr_loop0 (fun k t x => l_layFirst_21 k (nI t) x) e_look 1 0 16 (fun x t => bt (x.2.2 2 t &&& 255)) (fun k x => by
    rw [lf_s, if_pos (le_t (Nat.le_refl 16) (by decide))]) (fun k t x h => by
    rw [lf_s, if_neg (le_f h (by decide)), nI_1, ba (by omega) (by decide), pb (by omega) (by decide), Nat.zero_add]) (fun x i v t h1 h2 => by
    rw [gAn (by decide)]) (mm_fu 0 16) x (by decide)
theorem lf_e (v : Int32) (x : mm_S) : e_layFirst v x = e_look (mm_setA (mm_setA x 2 (L2 x 1 0 255 0 0 v)) 1 (wr (x.2.2 1) 0 16 (fun t => bt (L2 x 1 0 255 0 0 v t &&& 255)))) := by
  have e := ln_c (x := x) (s := 1) (a := 0) (t := -1) (r := 0) (v := 0) (c := v)
  rw [if_pos rfl] at e
  unfold e_layFirst
  dsimp only
  rw [e, lf_l, gAs, gAn (by decide)]
theorem bd_e {b : Nat} (hb : b ≤ 30) (v : Int32) (x : mm_S) : e_bdigest 0 v (nI b) x = dgs dg (gF x) 192 (64 * b) (e_wos v x) := by
  have e1 : (e_hsec 0 x + 1) * 64 = nI 192 := by
    unfold e_hsec
    decide
  have e2 : nI b * 64 = nI (b * 64) := ml3 b 64
  unfold e_bdigest e_bstart
  dsimp only
  rw [e1, e2, nI_add, dgc (by omega) (by omega) (by decide), show 192 + b * 64 - 192 = 64 * b by omega]
  rfl
theorem ok_ts (v n : Int32) (k : Int64) (x : mm_S) : ok_TSi v n k x := by
  obtain ⟨b, b1, b2, b3, b4⟩ := bl_n n x
  have e1 : e_bstart 0 x = nI 192 := by
    unfold e_bstart e_hsec
    decide
  unfold ok_TSi
  dsimp only
  rw [b3, e1]
  refine ⟨⟨by decide, ?_⟩, (l140_l (u1 := v) b2 b 31 0 x (by omega) (by omega)).2⟩
  dsimp only
  split
  · trivial
  · split <;> trivial
theorem ok_mo (v n : Int32) (k : Int64) (x : mm_S) : ok_MOi v n k x := by
  obtain ⟨b, b1, b2, b3, b4⟩ := bl_n n x
  unfold ok_MOi
  refine o76_l v n (fun z => ?_) (mm_fu 0 4096) (fu_k (m := 4096) (by decide)) x
  rw [b4]
  exact (l125_l (u1 := v) b2 (fun z => o206_l v z) b 31 0 _ z (by omega) (by omega)).2
def X1 (k : Int64) (b : Nat) : mm_S := mm_setA (x0C k) 1 (wb vb FF 0 b)
theorem ts_e {v n : Int32} {k : Int64} {b : Nat} (b1 : 1 ≤ b) (b2 : b ≤ 30) (b3 : (1 : Int32) + e_fmod n 30 (x0C k) = nI b) : e_TSi v n k (x0C k) = tE v (nI b) (X1 k b) := by
  have e1 : e_bstart 0 (x0C k) = nI 192 := by
    unfold e_bstart e_hsec
    decide
  unfold e_TSi
  dsimp only
  rw [b3, e1]
  exact (l140_l (u1 := v) b2 b 31 0 (x0C k) (by omega) (by omega)).1
def Y1 (y : mm_S) (b : Nat) : mm_S := mm_setA y 10 (wb kb (wr (y.2.2 10) 0 4096 (fun _ => 255)) 0 b)
theorem mo_e {v n : Int32} {k : Int64} {b : Nat} {y : mm_S} (b2 : b ≤ 30) (b4 : bN n = nI b) : e_MOi v n k y = mE v (nI b) (bdf kst b 0 ((Int32.toInt64 v) &&& (4294967295 : Int64))) (Y1 y b) := by
  unfold e_MOi
  rw [l76_l v n (mm_fu 0 4096) (fu_k (m := 4096) (by decide)) y]
  unfold pE
  rw [b4]
  have h := (l125_l (u1 := v) b2 (fun z => o206_l v z) b 31 0 ((Int32.toInt64 v) &&& (4294967295 : Int64)) (mm_setA y 10 (wr (y.2.2 10) 0 4096 (fun _ => 255))) (by omega) (by omega)).1
  refine Eq.trans h ?_
  unfold Y1
  rw [gAA, gAs]
theorem gA1 (x : mm_S) (r : Nat) (f : Nat → Int32) : (mm_setA x r f).1 = x.1 := rfl
theorem gA21 (x : mm_S) (r : Nat) (f : Nat → Int32) : (mm_setA x r f).2.1 = x.2.1 := rfl
theorem FF_255 (j : Nat) (hj : j < 4096) : FF j &&& 255 = 255 := by
  unfold FF
  rw [wr_in (by omega) (by omega)]
  decide
theorem R_init (v n : Int32) (k : Int64) : R (e_TSi v n k (x0C k)) (e_MOi v n k (mm_mrg (e_TSi v n k (x0C k)) (z0 k))) := by
  obtain ⟨b, b1, b2, b3, b4⟩ := bl_n n (x0C k)
  rw [mo_e (y := mm_mrg (e_TSi v n k (x0C k)) (z0 k)) b2 b4]
  have zI : ∀ r, 100 ≤ r → (mm_mrg (e_TSi v n k (x0C k)) (z0 k)).1 r = (z0 k).1 r := fun r hr => if_neg (by omega)
  have zL : (mm_mrg (e_TSi v n k (x0C k)) (z0 k)).2.1 10 = k := rfl
  have zA : ∀ r, 10 ≤ r → (mm_mrg (e_TSi v n k (x0C k)) (z0 k)).2.2 r = (fun _ => 0) := fun r hr => if_neg (by omega)
  generalize mm_mrg (e_TSi v n k (x0C k)) (z0 k) = Y0 at *
  rw [ts_e b1 b2 b3]
  unfold tE mE
  rw [lf_e, l206_l]
  unfold nE
  rw [l253_l, ln_m]
  have hD : e_bdigest 0 v (nI b) (X1 k b) = bdf kst b 0 ((Int32.toInt64 v) &&& (4294967295 : Int64)) := by
    rw [bd_e b2]
    exact kd (H := gF (X1 k b)) b 0 (e_wos v (X1 k b)) (fun i' h1 h2 t ht => by
      show wb vb FF 0 b (192 + 64 * i' + t) &&& 255 = kb i' t
      rw [wb_in b 0 FF i' t h1 h2 ht, vb_k])
  rw [hD]
  generalize bdf kst b 0 ((Int32.toInt64 v) &&& (4294967295 : Int64)) = Dg
  have hh : e_hsec 0 (e_hs_compose v (nI b) 0 Dg (e_keyNumber 0 (X1 k b)) (X1 k b)) * 64 = nI 128 := by
    unfold e_hsec
    decide
  rw [hh]
  have hq := hd_q (x := X1 k b) (y := Y1 Y0 b) (v0 := v) (v1 := nI b) (v2 := 0) (v3 := Dg) (v4 := e_keyNumber 0 (X1 k b)) (by decide) (by
    unfold e_keyNumber e_m_numberOf
    show k ^^^ _ = Y0.2.1 10 ^^^ _
    rw [zL])
  obtain ⟨s1, s2, s3⟩ := hc1 (x := X1 k b) (v0 := v) (v1 := nI b) (v2 := 0) (v3 := Dg) (v4 := e_keyNumber 0 (X1 k b))
  obtain ⟨t1, t2, t3⟩ := hm1 (y := Y1 Y0 b) (v0 := v) (v1 := nI b) (v2 := 0) (v3 := Dg)
  generalize e_hs_compose v (nI b) 0 Dg (e_keyNumber 0 (X1 k b)) (X1 k b) = X2 at *
  generalize e_m_header v (nI b) 0 Dg (Y1 Y0 b) = Y2 at *
  have hcs := cs_l (n0 := 64) (r0 := 3) (n2 := 4096) (r2 := 1) (a := 0) (c := 128) (by decide) (by decide) (by decide) (by decide) (by decide) X2
  simp only [Nat.zero_add] at hcs
  have hcs' : e_copySector 64 3 0 4096 1 (nI 128) X2 = mm_setA X2 1 (wr (X2.2.2 1) 128 64 (fun t => bt (X2.2.2 3 t &&& 255))) := hcs
  rw [hcs']
  -- the flash, byte by byte
  have f1 : ∀ j, j < 4096 → (Y1 Y0 b).2.2 10 j = (X1 k b).2.2 1 j &&& 255 := by
    intro j hj
    show wb kb (wr (Y0.2.2 10) 0 4096 (fun _ => 255)) 0 b j = wb vb FF 0 b j &&& 255
    exact wb_q b 0 FF _ (fun i hi => by rw [wr_in (by omega) (by omega), FF_255 i hi]) j hj
  have f2 : ∀ j, j < 4096 → wr (Y2.2.2 10) 128 64 (Y2.2.2 14) j = wr (X2.2.2 1) 128 64 (fun t => bt (X2.2.2 3 t &&& 255)) j &&& 255 := by
    intro j hj
    by_cases h : 128 ≤ j ∧ j < 128 + 64
    · rw [wr_in h.1 h.2, wr_in h.1 h.2, bt_255, pu_and]
      exact hq _ (by omega)
    · rw [wr_out (by omega), wr_out (by omega), t3 10 (by decide), s3 1 (by decide)]
      exact f1 j hj
  obtain ⟨X3, hX3⟩ : ∃ X3, X3 = mm_setA X2 1 (wr (X2.2.2 1) 128 64 (fun t => bt (X2.2.2 3 t &&& 255))) := ⟨_, rfl⟩
  obtain ⟨Y3, hY3⟩ : ∃ Y3, Y3 = mm_setA Y2 10 (wr (Y2.2.2 10) 128 64 (Y2.2.2 14)) := ⟨_, rfl⟩
  have a1 : X3.2.2 1 = wr (X2.2.2 1) 128 64 (fun t => bt (X2.2.2 3 t &&& 255)) := by rw [hX3, gAs]
  have a2 : Y3.2.2 10 = wr (Y2.2.2 10) 128 64 (Y2.2.2 14) := by rw [hY3, gAs]
  have a3 : X3.1 = (x0C k).1 := by
    rw [hX3, gA1, s1]
    unfold X1
    rw [gA1]
  have a4 : X3.2.1 = (x0C k).2.1 := by
    rw [hX3, gA21, s2]
    unfold X1
    rw [gA21]
  have a5 : ∀ r, ¬ r = 1 → ¬ r = 3 → X3.2.2 r = (x0C k).2.2 r := fun r h1 h2 => by
    rw [hX3, gAn h1, s3 r h2]
    unfold X1
    rw [gAn h1]
  have c3 : Y3.1 = Y0.1 := by
    rw [hY3, gA1, t1]
    unfold Y1
    rw [gA1]
  have c4 : Y3.2.1 = Y0.2.1 := by
    rw [hY3, gA21, t2]
    unfold Y1
    rw [gA21]
  have c5 : ∀ r, ¬ r = 10 → ¬ r = 14 → Y3.2.2 r = Y0.2.2 r := fun r h1 h2 => by
    rw [hY3, gAn h1, t3 r h2]
    unfold Y1
    rw [gAn h1]
  rw [← a1, ← a2] at f2
  rw [← hX3, ← hY3]
  have hl := ln_q (x := X3) (y := Y3) (s := 1) (S := 1) (C := Int32.toInt64 v) (a := 0) (t := 255) (r := 0) (v := 0) (c := v) (a' := 0) (t' := 255) (r' := 0) (v' := 0) rfl rfl (by decide) (by decide) (by decide) (by decide)
  generalize L2 X3 1 0 255 0 0 v = F2 at *
  generalize L15 Y3 1 0 255 0 0 (Int32.toInt64 v) = F15 at *
  obtain ⟨l1, l2, l3⟩ := lk (mm_setA (mm_setA X3 2 F2) 1 (wr (X3.2.2 1) 0 16 (fun t => bt (F2 t &&& 255))))
  generalize hP1 : e_look (mm_setA (mm_setA X3 2 F2) 1 (wr (X3.2.2 1) 0 16 (fun t => bt (F2 t &&& 255)))) = P at *
  have p2 : P.2.2 = (mm_setA (mm_setA X3 2 F2) 1 (wr (X3.2.2 1) 0 16 (fun t => bt (F2 t &&& 255)))).2.2 := by rw [l2]
  have p1 : P.2.1 = X3.2.1 := by rw [l2, gA21, gA21]
  have pI : ∀ r, r < 21 ∨ 27 < r → P.1 r = (x0C k).1 r := fun r hr => (l3 r hr).trans (by rw [gA1, gA1, a3])
  have pA1 : P.2.2 1 = wr (X3.2.2 1) 0 16 (fun t => bt (F2 t &&& 255)) := by rw [p2, gAs]
  have pA : ∀ r, ¬ r = 1 → ¬ r = 2 → ¬ r = 3 → P.2.2 r = (x0C k).2.2 r := fun r h1 h2 h3 => by rw [p2, gAn h1, gAn h2, a5 r h1 h3]
  have q10 : (mm_setA (mm_setA Y3 15 F15) 10 (wr ((mm_setA Y3 15 F15).2.2 10) 0 16 ((mm_setA Y3 15 F15).2.2 15))).2.2 10 = wr (Y3.2.2 10) 0 16 F15 := by
    rw [gAs, gAs, gAn (by decide)]
  have qA : ∀ r, 10 ≤ r → ¬ r = 10 → ¬ r = 14 → ¬ r = 15 → (mm_setA (mm_setA Y3 15 F15) 10 (wr ((mm_setA Y3 15 F15).2.2 10) 0 16 ((mm_setA Y3 15 F15).2.2 15))).2.2 r = (fun _ => 0) := fun r hr h1 h2 h3 => by
    rw [gAn h1, gAn h3, c5 r h1 h2]
    exact zA r hr
  have qI : ∀ r, 100 ≤ r → (mm_setA (mm_setA Y3 15 F15) 10 (wr ((mm_setA Y3 15 F15).2.2 10) 0 16 ((mm_setA Y3 15 F15).2.2 15))).1 r = (z0 k).1 r := fun r hr => by
    rw [gA1, gA1, c3]
    exact zI r hr
  have qL : (mm_setA (mm_setA Y3 15 F15) 10 (wr ((mm_setA Y3 15 F15).2.2 10) 0 16 ((mm_setA Y3 15 F15).2.2 15))).2.1 10 = k := by
    rw [gA21, gA21, c4]
    exact zL
  generalize mm_setA (mm_setA Y3 15 F15) 10 (wr ((mm_setA Y3 15 F15).2.2 10) 0 16 ((mm_setA Y3 15 F15).2.2 15)) = Z at *
  refine ⟨⟨fun j hj => ?_, fun j hj => ?_, fun j hj => ?_⟩, ?_, ?_, ?_, ?_, l1⟩
  · rw [q10, pA1]
    by_cases h : j < 16
    · rw [wr_in (by omega) (by omega), wr_in (by omega) (by omega), bt_255, pu_and]
      exact hl _ (by omega)
    · rw [wr_out (by omega), wr_out (by omega)]
      exact f2 j hj
  · rw [qA 11 (by decide) (by decide) (by decide) (by decide), pA 0 (by decide) (by decide) (by decide)]
    show (0 : Int32) = 0 &&& 255
    decide
  · rw [qA 12 (by decide) (by decide) (by decide) (by decide), pA 4 (by decide) (by decide) (by decide)]
    show (0 : Int32) = 0 &&& 255
    decide
  · unfold RC
    rw [qA 13 (by decide) (by decide) (by decide) (by decide), pI 13 (by decide), pI 14 (by decide), pI 20 (by decide), pI 5 (by decide), pI 6 (by decide), pI 7 (by decide), pI 8 (by decide)]
    exact ⟨rfl, rfl, rfl, rfl, rfl, rfl, rfl⟩
  · unfold RM
    rw [qI 108 (by decide), qI 109 (by decide), qI 110 (by decide), qI 111 (by decide), qL, p1, a4, pI 30 (by decide), pI 31 (by decide), pI 32 (by decide), pI 33 (by decide)]
    refine ⟨rfl, rfl, rfl, rfl, rfl, ?_, ?_⟩
    · show 0 ≤ (0 : Int32).toInt ∧ (0 : Int32).toInt ≤ 30
      decide
    · show 0 ≤ (0 : Int32).toInt ∧ (0 : Int32).toInt ≤ 3
      decide
  · unfold RP
    rw [qI 100 (by decide), qI 101 (by decide), qI 102 (by decide), pI 12 (by decide), pI 10 (by decide), pI 11 (by decide)]
    refine ⟨rfl, Or.inl rfl, rfl, ?_, rfl, ?_, ?_, fun _ => rfl⟩
    · show -1 ≤ (-1 : Int32).toInt
      decide
    · show 0 ≤ (0 : Int32).toInt
      decide
    · show (0 : Int32).toInt < 64
      decide
  · unfold RV RO
    rw [qI 103 (by decide), qI 104 (by decide), qI 105 (by decide), qI 106 (by decide), pI 0 (by decide), pI 1 (by decide), pI 2 (by decide), pI 3 (by decide), pI 4 (by decide)]
    refine ⟨rfl, rfl, rfl, rfl, Or.inl rfl, ?_, fun q => absurd rfl q, Or.inl rfl, Or.inl ⟨rfl, rfl⟩⟩
    show 0 ≤ (0 : Int32).toInt ∧ (0 : Int32).toInt ≤ 20
    decide
