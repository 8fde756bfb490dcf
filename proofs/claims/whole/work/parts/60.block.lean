/-! Four lines of a sector; a block; the end of an offer. -/
theorem WW_r {x y : mm_S} (hA : RA x y) (hC : RC x y) (hM : RM x y) (hP : RP x y) (h12 : x.1 12 = 0) : WW x y x y 1 := ⟨Or.inl ⟨rfl, h12, fun _ _ => rfl⟩, hA, hC, hM, hP, fun _ _ _ _ _ => rfl, fun _ _ => rfl, rfl, fun _ _ _ => rfl, rfl, fun _ _ => rfl⟩
theorem ps_s (k n1 r1 : Nat) (u1 u3 : Int32) (x : mm_S) {b : Int32} {p : mm_S} (h : e_pline ((u1 * (64 : Int32)) + (u3 * (16 : Int32))) n1 r1 (u3 * (16 : Int32)) x = (b, p)) : l_psector_2 (k + 1) n1 r1 u1 u3 x = if (4 : Int32) ≤ u3 then (1, x) else if b = 0 then (0, p) else l_psector_2 k n1 r1 u1 (u3 + 1) p := by
  rw [l_psector_2]
  dsimp only
  rw [h]
theorem ps_e (k n1 r1 : Nat) (u1 : Int32) (x : mm_S) : l_psector_2 (k + 1) n1 r1 u1 (nI 4) x = (1, x) := by
  rw [l_psector_2, if_pos (by decide)]
theorem ps_q {sc rc rm : Nat} (hsc : sc < 64) (hrc : ¬ rc = 1) (hrm : ¬ rm = 10) (hrm2 : ¬ rm = 13) (Lm : Nat → Nat → mm_S → Int32 × mm_S) (Ok : Nat → Nat → mm_S → Prop) (E : mm_S → Int32 × mm_S) (EO : mm_S → Prop)
    (h0 : ∀ k y, Lm (k + 1) 4 y = E y)
    (h1 : ∀ k i y b q, i < 4 → e_m_programmed (nI (64 * sc + 16 * i)) 64 rm (nI (16 * i)) y = (b, q) → Lm (k + 1) i y = if b = 0 then (-106, q) else Lm k (i + 1) q)
    (o0 : ∀ k y, EO y → Ok (k + 1) 4 y)
    (o1 : ∀ k i y b q, i < 4 → e_m_programmed (nI (64 * sc + 16 * i)) 64 rm (nI (16 * i)) y = (b, q) → ok_m_programmed (nI (64 * sc + 16 * i)) 64 rm (nI (16 * i)) y → (¬ b = 0 → Ok k (i + 1) q) → Ok (k + 1) i y) :
    ∀ (m i k f : Nat) (x y : mm_S), i + m = 4 → m < k → m < f → RA x y → RC x y → RM x y → RP x y → x.1 12 = 0 → (∀ t, t < 64 → y.2.2 rm t = x.2.2 rc t &&& 255) → ∃ (b : Int32) (p q : mm_S), l_psector_2 k 64 rc (nI sc) (nI i) x = (b, p) ∧ (Lm f i y = if b = 0 then (-106, q) else E q) ∧ ((¬ b = 0 → EO q) → Ok f i y) ∧ WW x y p q b ∧ ∀ j, j < 64 * sc ∨ 64 * sc + 64 ≤ j → p.2.2 1 j = x.2.2 1 j
  | m, i, 0, f, x, y, _, h, _, _, _, _, _, _, _ => by omega
  | m, i, k + 1, 0, x, y, _, _, h, _, _, _, _, _, _ => by omega
  | 0, i, k + 1, f + 1, x, y, hi, _, _, hA, hC, hM, hP, h12, hw => by
    have e : i = 4 := by omega
    subst e
    refine ⟨1, x, y, ps_e k 64 rc (nI sc) x, ?_, fun h => o0 f y (h n10), WW_r hA hC hM hP h12, fun _ _ => rfl⟩
    rw [if_neg n10, h0]
  | m + 1, i, k + 1, f + 1, x, y, hi, hk, hf, hA, hC, hM, hP, h12, hw => by
    have e1 : nI i * 16 = nI (16 * i) := by
      rw [Nat.mul_comm]
      exact ml3 i 16
    have e2 : nI sc * 64 + nI (16 * i) = nI (64 * sc + 16 * i) := ml sc (16 * i)
    obtain ⟨b, p, q, k1, k2, k3, k4, k5⟩ := pl_q (x := x) (y := y) (a := 64 * sc + 16 * i) (f := 16 * i) (n := 64) (r := rc) (n' := 64) (r' := rm) hA hC hM hP h12 (by omega) (by omega) (by decide) (by omega) (by decide) hrc hrm hrm2 (fun t ht => hw _ (by omega))
    have ps := ps_s k 64 rc (nI sc) (nI i) x (b := b) (p := p) (by rw [e1, e2]; exact k1)
    rw [if_neg (show ¬ (4 : Int32) ≤ nI i from le_f (n := 4) (by omega) (by decide)), nI_1] at ps
    have lm := h1 f i y b q (by omega) k2
    rcases k4.1 with ⟨hb, hp12, kk⟩ | ⟨hb, -⟩
    · subst hb
      rw [if_neg n10] at ps lm
      obtain ⟨-, b2, b3, b4, b5, b6, b7, b8, b9, b10, b11⟩ := id k4
      obtain ⟨b', p', q', l1, l2, l3, l4, l5⟩ := ps_q hsc hrc hrm hrm2 Lm Ok E EO h0 h1 o0 o1 m (i + 1) k f p q (by omega) (by omega) (by omega) b2 b3 b4 b5 hp12 (fun t ht => by rw [b9 rm hrm hrm2, b7 rc hrc]; exact hw t ht)
      refine ⟨b', p', q', ps.trans l1, lm.trans l2, fun h => o1 f i y 1 q (by omega) k2 k3 (fun _ => l3 h), WW_t k4 l4, fun j hj => (l5 j hj).trans (k5 j (by omega))⟩
    · subst hb
      rw [if_pos rfl] at ps lm
      refine ⟨0, p, q, ps, ?_, fun h => o1 f i y 0 q (by omega) k2 k3 (fun h => absurd rfl h), k4, fun j hj => k5 j (by omega)⟩
      rw [if_pos rfl]
      exact lm
def bE (x : mm_S) : Int32 × mm_S := (e_m_awaited (mm_setI x 107 (x.1 107 + 1)), mm_setI x 107 (x.1 107 + 1))
theorem mb_s {k : Nat} {u2 u3 : Int32} {y q : mm_S} {b : Int32} (h : e_m_programmed (u2 + u3) 64 11 u3 y = (b, q)) : l_m_block_89 (k + 1) u2 u3 y = if (64 : Int32) ≤ u3 then bE y else if b = 0 then (-106, q) else l_m_block_89 k u2 (u3 + 16) q := by
  rw [l_m_block_89]
  unfold bE
  dsimp only
  rw [h]
theorem mb_e {k : Nat} {u2 : Int32} {y : mm_S} : l_m_block_89 (k + 1) u2 (nI 64) y = bE y := by
  rw [l_m_block_89, if_pos (by decide)]
  rfl
theorem ob_s {k : Nat} {u2 u3 : Int32} {y q : mm_S} {b : Int32} (h : e_m_programmed (u2 + u3) 64 11 u3 y = (b, q)) (hu : ¬ (64 : Int32) ≤ u3) (h1 : ok_m_programmed (u2 + u3) 64 11 u3 y) (h2 : ¬ b = 0 → okl_m_block_89 k u2 (u3 + 16) q) : okl_m_block_89 (k + 1) u2 u3 y := by
  rw [okl_m_block_89, if_neg hu]
  dsimp only
  rw [h]
  refine ⟨h1, ?_⟩
  dsimp only
  by_cases c : b = 0
  · rw [if_pos c]
    trivial
  · rw [if_neg c]
    exact h2 c
theorem ob_e {k : Nat} {u2 : Int32} {y : mm_S} (h : ok_m_awaited (mm_setI y 107 (y.1 107 + 1))) : okl_m_block_89 (k + 1) u2 (nI 64) y := by
  rw [okl_m_block_89, if_pos (by decide)]
  exact ⟨h, trivial⟩
theorem pb_q {sc : Nat} (hsc : sc < 64) {x y : mm_S} (hA : RA x y) (hC : RC x y) (hM : RM x y) (hP : RP x y) (h12 : x.1 12 = 0) : ∃ (b : Int32) (p q : mm_S), e_psector (nI sc) 64 0 x = (b, p) ∧ (l_m_block_89 (mm_fu 0 64) (nI (64 * sc)) 0 y = if b = 0 then (-106, q) else bE q) ∧ ((¬ b = 0 → ok_m_awaited (mm_setI q 107 (q.1 107 + 1))) → okl_m_block_89 (mm_fu 0 64) (nI (64 * sc)) 0 y) ∧ WW x y p q b ∧ ∀ j, j < 64 * sc ∨ 64 * sc + 64 ≤ j → p.2.2 1 j = x.2.2 1 j := by
  have a16 : ∀ i, nI (16 * i) + 16 = nI (16 * (i + 1)) := fun i => nI_add (16 * i) 16
  have h := ps_q (sc := sc) (rc := 0) (rm := 11) hsc (by decide) (by decide) (by decide) (fun k i y => l_m_block_89 k (nI (64 * sc)) (nI (16 * i)) y) (fun k i y => okl_m_block_89 k (nI (64 * sc)) (nI (16 * i)) y) bE (fun y => ok_m_awaited (mm_setI y 107 (y.1 107 + 1))) (fun k y => mb_e) (fun k i y b q hi hq => by
    rw [mb_s (b := b) (q := q) ((congrArg (fun u => e_m_programmed u 64 11 (nI (16 * i)) y) (nI_add (64 * sc) (16 * i))).trans hq), if_neg (show ¬ (64 : Int32) ≤ nI (16 * i) from le_f (n := 64) (by omega) (by decide)), a16]) (fun k y h => ob_e h) (fun k i y b q hi hq h1 h2 => ob_s (b := b) (q := q) ((congrArg (fun u => e_m_programmed u 64 11 (nI (16 * i)) y) (nI_add (64 * sc) (16 * i))).trans hq) (le_f (n := 64) (by omega) (by decide)) (by rw [nI_add]; exact h1) (fun c => by rw [a16]; exact h2 c)) 4 0 (mm_fu 0 4) (mm_fu 0 64) x y rfl (by decide) (by decide) hA hC hM hP h12 hA.2.1
  unfold e_psector
  exact h
theorem dv64b : ∀ a, a < 64 → nI (64 * a) / 64 = nI a := by decide +kernel
theorem q_block {x y : mm_S} (h : R x y) : Q (ok_m_block y) (e_block x) (e_m_block y) := by
  have h' := h
  obtain ⟨hA, hC, hM, hP, hV, hL⟩ := h'
  obtain ⟨w1, w2⟩ := RO_a hV
  obtain ⟨v1, v2, v3, v4, v5, v6, v7, v8, v9⟩ := id hV
  unfold ok_m_block e_block e_m_block
  rw [hP.1]
  by_cases c0 : x.1 12 = 0
  · rw [if_pos c0, if_pos c0, if_pos c0, v4]
    rcases v9 with ⟨z1, z2⟩ | ⟨z1, z2, z3, z4, z5, z6⟩
    · rw [if_pos z1, if_pos z1, if_pos z1]
      exact ⟨trivial, rfl, h⟩
    · obtain ⟨s, hs, es⟩ : ∃ s, s < 2 ∧ x.1 1 = nI s := by
        rcases z1 with q | q
        · exact ⟨0, by decide, q⟩
        · exact ⟨1, by decide, q⟩
      have ne : ¬ x.1 1 = -1 := by
        rw [es]
        exact ni_m s (by omega)
      rw [if_neg ne, if_neg ne, if_neg ne, ← w1]
      by_cases c1 : x.1 2 = 0
      · rw [if_pos c1, if_pos c1, if_pos c1]
        exact ⟨⟨w2, trivial⟩, rfl, h⟩
      · rw [if_neg c1, if_neg c1, if_neg c1, v3]
        by_cases c2 : x.1 0 = 64
        · rw [if_pos c2, if_pos c2, if_pos c2]
          dsimp only
          have hl := hd_l hs
          have c1' : ¬ (x.1 2).toInt = 0 := fun q => c1 ((eq_l (by decide)).mpr q)
          obtain ⟨n, hn, en⟩ : ∃ n, n < 30 ∧ y.1 107 = nI n := ⟨(y.1 107).toInt.toNat, by omega, ni_of z2⟩
          have en' : (y.1 107).toInt = (n : Int) := by
            rw [en, nI_toInt (by omega)]
          have hsc : 3 + 31 * s + n < 64 := by omega
          have e2 : e_ho_size (mm_setI x 0 0) = nI (SZ y).toNat := by
            rw [ho_s]
            have : rdn (fun j => (mm_setI x 0 0).2.2 4 j &&& 255) 8 4 0 = rdn (y.2.2 12) 8 4 0 := (rdn_congr (g := y.2.2 12) (h := fun j => x.2.2 4 j &&& 255) 4 8 0 (fun j j1 j2 => hA.2.2 j (by omega))).symm
            rw [this]
            exact sz_n z4 z5
          have e3 : x.1 2 = nI ((SZ y).toNat - n) := by
            rw [ni_of (v := x.1 2) (by omega)]
            congr 1
            omega
          have e1 : (((e_hsec ((mm_setI x 0 0).1 1) (mm_setI x 0 0)) + (1 : Int32)) + (e_ho_size (mm_setI x 0 0))) - ((mm_setI x 0 0).1 2) = nI (3 + 31 * s + n) := by
            have e4 : (mm_setI x 0 0).1 1 = nI s := es
            have e5 : (mm_setI x 0 0).1 2 = nI ((SZ y).toNat - n) := e3
            rw [e4, e5, hd_c hs, e2, nI_1, nI_add]
            have e6 : nI (2 + 31 * s + 1 + (SZ y).toNat) = nI (3 + 31 * s + n) + nI ((SZ y).toNat - n) := by
              rw [nI_add]
              congr 1
              omega
            rw [e6, Int32.add_sub_cancel]
          have m1 : (e_m_headOf ((mm_setI y 105 0).1 106) (mm_setI y 105 0)) + ((64 : Int32) * ((1 : Int32) + ((mm_setI y 105 0).1 107))) = nI (64 * (3 + 31 * s + n)) := by
            have e4 : (mm_setI y 105 0).1 106 = nI s := v4.trans es
            have e5 : (mm_setI y 105 0).1 107 = nI n := en
            rw [e4, e5, hd_h hs, show (1 : Int32) + nI n = nI (1 + n) from nI_add 1 n, show (64 : Int32) * nI (1 + n) = nI (64 * (1 + n)) from ml3 64 (1 + n), nI_add]
            congr 1
            unfold hd
            omega
          have m2 : nI (64 * (3 + 31 * s + n)) / 64 = nI (3 + 31 * s + n) := dv64b _ hsc
          rw [e1, m1, m2]
          have hR4 : R (mm_setI x 0 0) (mm_setI y 105 0) := ⟨RA_c hA rfl rfl rfl rfl rfl rfl, RC_c hC rfl rfl rfl rfl rfl rfl rfl rfl, RM_c hM rfl rfl rfl rfl rfl rfl rfl rfl rfl rfl, RP_c hP rfl rfl rfl rfl rfl rfl, ⟨v1, v2, rfl, v4, v5, v6, v7, Or.inl rfl, Or.inr ⟨z1, z2, z3, z4, z5, z6⟩⟩, LG_cx hL rfl rfl rfl rfl rfl rfl rfl rfl⟩
          have x12 : (mm_setI x 0 0).1 12 = 0 := c0
          have zz : RO (mm_setI x 0 0) (mm_setI y 105 0) ∧ (mm_setI x 0 0).1 1 = nI s ∧ (mm_setI y 105 0).1 107 = nI n ∧ ((mm_setI x 0 0).1 2).toInt = SZ (mm_setI y 105 0) - n ∧ (n : Int) < SZ (mm_setI y 105 0) ∧ SZ (mm_setI y 105 0) ≤ 30 := ⟨hR4.2.2.2.2.1.2.2.2.2.2.2.2.2, es, en, by show (x.1 2).toInt = SZ y - n; omega, by show (n : Int) < SZ y; omega, z5⟩
          generalize mm_setI x 0 0 = X at *
          generalize mm_setI y 105 0 = Y at *
          obtain ⟨b, p, q, k1, k2, k3, k4, k5⟩ := er_q (x := X) (y := Y) (s := 3 + 31 * s + n) hR4.1 hR4.2.1 hR4.2.2.1 hR4.2.2.2.1 x12 hsc
          have hf : ∀ j, j < 128 → p.2.2 1 j = X.2.2 1 j := fun j hj => k5 j (by omega)
          rw [k1, k2]
          dsimp only
          rcases k4.1 with ⟨hb, hp12, kk⟩ | ⟨hb, -⟩
          · subst hb
            rw [if_neg n10, if_neg n10, if_neg n10]
            have hR1 := WW_R1 k4 hR4.2.2.2.2.1 hR4.2.2.2.2.2 hf
            obtain ⟨b', p', q', l1, l2, l3, l4, l5⟩ := pb_q (x := p) (y := q) hsc hR1.1 hR1.2.1 hR1.2.2.1 hR1.2.2.2.1 hp12
            have hf' : ∀ j, j < 128 → p'.2.2 1 j = p.2.2 1 j := fun j hj => l5 j (by omega)
            rw [l1, l2]
            dsimp only
            rcases l4.1 with ⟨hb, hp12', kk'⟩ | ⟨hb, -⟩
            · subst hb
              rw [if_neg n10, if_neg n10]
              have hR2 := WW_R1 l4 hR1.2.2.2.2.1 hR1.2.2.2.2.2 hf'
              have aa : p'.1 1 = nI s := by
                rw [l4.2.2.2.2.2.1 1 (by decide) (by decide) (by decide) (by decide), k4.2.2.2.2.2.1 1 (by decide) (by decide) (by decide) (by decide)]
                exact zz.2.1
              have bb : p'.1 2 = X.1 2 := by
                rw [l4.2.2.2.2.2.1 2 (by decide) (by decide) (by decide) (by decide), k4.2.2.2.2.2.1 2 (by decide) (by decide) (by decide) (by decide)]
              have cc : q'.1 107 = nI n := by
                rw [kk' 107 (by decide), kk 107 (by decide)]
                exact zz.2.2.1
              have ss : SZ q' = SZ Y := by
                unfold SZ
                rw [l4.2.2.2.2.2.2.2.2.1 12 (by decide) (by decide), k4.2.2.2.2.2.2.2.2.1 12 (by decide) (by decide)]
              have hRR : R (mm_setI p' 2 (p'.1 2 - 1)) (mm_setI q' 107 (q'.1 107 + 1)) := by
                obtain ⟨aA, aC, aM, aP, ⟨u1, u2, u3, u4, u5, u6, u7, u8, u9⟩, aL⟩ := hR2
                refine ⟨RA_c aA rfl rfl rfl rfl rfl rfl, RC_c aC rfl rfl rfl rfl rfl rfl rfl rfl, RM_c aM rfl rfl rfl rfl rfl rfl rfl rfl rfl rfl, RP_c aP rfl rfl rfl rfl rfl rfl, ⟨u1, u2, u3, u4, u5, u6, u7, u8, Or.inr ⟨?_, ?_⟩⟩, LG_cx aL rfl rfl rfl rfl rfl rfl rfl rfl⟩
                · show p'.1 1 = 0 ∨ p'.1 1 = 1
                  rw [aa]
                  have : s = 0 ∨ s = 1 := by omega
                  rcases this with q | q <;> subst q
                  · exact Or.inl rfl
                  · exact Or.inr rfl
                · show 0 ≤ (q'.1 107 + 1).toInt ∧ (q'.1 107 + 1).toInt ≤ SZ q' ∧ 1 ≤ SZ q' ∧ SZ q' ≤ 30 ∧ (p'.1 2 - 1).toInt = SZ q' - (q'.1 107 + 1).toInt
                  obtain ⟨-, -, -, y1, y2, y3⟩ := zz
                  have t1 : (p'.1 2 - 1).toInt = (X.1 2).toInt - 1 := by
                    rw [bb]
                    exact sb_q (by rw [mm_1]) (by omega) (by omega)
                  rw [cc, nI_1, nI_toInt (by omega), ss, t1]
                  omega
              obtain ⟨w3, w4⟩ := RO_a hRR.2.2.2.2.1
              exact ⟨⟨w2, k3, l3 (fun _ => w4)⟩, w3, hRR⟩
            · subst hb
              rw [if_pos rfl, if_pos rfl, ls_e]
              exact ⟨⟨w2, k3, l3 (fun c => absurd rfl c)⟩, rfl, WW_R0 l4 hR1.2.2.2.2.2 hf'⟩
          · subst hb
            rw [if_pos rfl, if_pos rfl, if_pos rfl, ls_e]
            exact ⟨⟨w2, k3, trivial⟩, rfl, WW_R0 k4 hR4.2.2.2.2.2 hf⟩
        · rw [if_neg c2, if_neg c2, if_neg c2]
          have c3 : x.1 0 = 0 := v8.resolve_right c2
          refine ⟨⟨w2, trivial⟩, rfl, RA_c hA rfl rfl rfl rfl rfl rfl, RC_c hC rfl rfl rfl rfl rfl rfl rfl rfl, RM_c hM rfl rfl rfl rfl rfl rfl rfl rfl rfl rfl, RP_c hP rfl rfl rfl rfl rfl rfl, ⟨v1, v2, c3.symm, v4, v5, v6, v7, v8, Or.inr ⟨z1, z2, z3, z4, z5, z6⟩⟩, hL⟩
  · rw [if_neg c0, if_neg c0, if_neg c0]
    exact ⟨trivial, rfl, h⟩
