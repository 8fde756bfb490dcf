/-! An append: where the line goes, and what the writes leave. -/
def cE1 (x2 : mm_S) : Int32 × mm_S :=
    let y8 := e_other ((x2.1 21) / (64 : Int32)) x2
    let y9 := y8 * (64 : Int32)
    let q10 := e_erase y8 x2
    if q10.1 = (0 : Int32) then
      let x11 := e_look q10.2
      ((0 : Int32), x11)
    else
      let q12 := e_pline y9 16 2 (0 : Int32) q10.2
      if q12.1 = (0 : Int32) then
        let x13 := e_look q12.2
        ((0 : Int32), x13)
      else
        let x14 := mm_setI q12.2 20 ((q12.2.1 20) + (1 : Int32))
        let x15 := e_look x14
        ((1 : Int32), x15)
def cE2 (y3 : Int32) (x2 : mm_S) : Int32 × mm_S :=
    let q4 := e_pline y3 16 2 (0 : Int32) x2
    if q4.1 = (0 : Int32) then
      let x5 := e_look q4.2
      ((0 : Int32), x5)
    else
      let x6 := mm_setI q4.2 20 ((q4.2.1 20) + (1 : Int32))
      let x7 := e_look x6
      ((1 : Int32), x7)
theorem ea_r {x X : mm_S} {a t r v c : Int32} (h : e_putNumber 16 2 0 4 (Int32.toInt64 ((e_lcompose a t r v c x).1 22 + 1)) (e_lcompose a t r v c x) = X) : e_append a t r v c x = if e_blankLine X = -1 then cE1 X else cE2 (e_blankLine X) X := by
  unfold e_append cE1 cE2
  dsimp only
  rw [h]
def aE1 (u8 : Int32) (x : mm_S) : Int32 × mm_S :=
        let y100 := (64 : Int32) * ((1 : Int32) - u8)
        let q101 := e_m_erased ((1 : Int32) - u8) x
        if q101.1 = (0 : Int32) then
          ((0 : Int32), q101.2)
        else
          let q102 := e_m_programmed y100 16 15 (0 : Int32) q101.2
          if q102.1 = (0 : Int32) then
            ((0 : Int32), q102.2)
          else
            let x103 := mm_setA q102.2 13 (upd (q102.2.2.2 13) (Int32.toNatClampNeg (2 : Int32)) ((q102.2.2.2 13 (Int32.toNatClampNeg (2 : Int32))) + (1 : Int32)))
            ((1 : Int32), x103)
def aE2 (u9 : Int32) (x : mm_S) : Int32 × mm_S :=
        let q98 := e_m_programmed u9 16 15 (0 : Int32) x
        if q98.1 = (0 : Int32) then
          ((0 : Int32), q98.2)
        else
          let x99 := mm_setA q98.2 13 (upd (q98.2.2.2 13) (Int32.toNatClampNeg (2 : Int32)) ((q98.2.2.2 13 (Int32.toNatClampNeg (2 : Int32))) + (1 : Int32)))
          ((1 : Int32), x99)
def oE1 (u8 : Int32) (x : mm_S) : Prop := (let y100 := (64 : Int32) * ((1 : Int32) - u8); (ok_m_erased ((1 : Int32) - u8) x) ∧ (let q101 := e_m_erased ((1 : Int32) - u8) x; if q101.1 = (0 : Int32) then (True) else ((ok_m_programmed y100 16 15 (0 : Int32) q101.2) ∧ (let q102 := e_m_programmed y100 16 15 (0 : Int32) q101.2; if q102.1 = (0 : Int32) then (True) else ((vp_in (2 : Int32) 7) ∧ ((vp_in (2 : Int32) 7) ∧ (let x103 := mm_setA q102.2 13 (upd (q102.2.2.2 13) (Int32.toNatClampNeg (2 : Int32)) ((q102.2.2.2 13 (Int32.toNatClampNeg (2 : Int32))) + (1 : Int32))); True)))))))
def oE2 (u9 : Int32) (x : mm_S) : Prop := ((ok_m_programmed u9 16 15 (0 : Int32) x) ∧ (let q98 := e_m_programmed u9 16 15 (0 : Int32) x; if q98.1 = (0 : Int32) then (True) else ((vp_in (2 : Int32) 7) ∧ ((vp_in (2 : Int32) 7) ∧ (let x99 := mm_setA q98.2 13 (upd (q98.2.2.2 13) (Int32.toNatClampNeg (2 : Int32)) ((q98.2.2.2 13 (Int32.toNatClampNeg (2 : Int32))) + (1 : Int32))); True)))))
theorem al_s (k : Nat) (u8 u9 : Int32) (x : mm_S) : l_m_appended_145 (k + 1) u8 u9 x = if ((64 : Int32) * (u8 + (1 : Int32))) ≤ u9 then (if u9 = ((64 : Int32) * (u8 + (1 : Int32))) then aE1 u8 x else aE2 u9 x) else if (e_m_isClean u9 x) = (0 : Int32) then l_m_appended_145 (k) u8 (u9 + (16 : Int32)) x else (if u9 = ((64 : Int32) * (u8 + (1 : Int32))) then aE1 u8 x else aE2 u9 x) := by
  rw [l_m_appended_145]
  unfold aE1 aE2
  rfl
theorem ao_s (k : Nat) (u8 u9 : Int32) (x : mm_S) : okl_m_appended_145 (k + 1) u8 u9 x = if ((64 : Int32) * (u8 + (1 : Int32))) ≤ u9 then (if u9 = ((64 : Int32) * (u8 + (1 : Int32))) then oE1 u8 x else oE2 u9 x) else (ok_m_isClean u9 x ∧ if (e_m_isClean u9 x) = (0 : Int32) then okl_m_appended_145 (k) u8 (u9 + (16 : Int32)) x else (if u9 = ((64 : Int32) * (u8 + (1 : Int32))) then oE1 u8 x else oE2 u9 x)) := by
  rw [okl_m_appended_145]
  unfold oE1 oE2
  rfl
theorem bk_s (k : Nat) (u1 u2 : Int32) (x : mm_S) : l_blankLine_21 (k + 1) u1 u2 x = if u1 ≤ u2 then -1 else if e_isBlank u2 x = 0 then l_blankLine_21 k u1 (u2 + 16) x else u2 := rfl
theorem se_1 (s : Nat) : (64 : Int32) * (nI s + 1) = nI (64 * (s + 1)) := by
  rw [nI_1]
  exact ml3 64 (s + 1)
theorem bk_q {x y : mm_S} (hA : RA x y) {s : Nat} (hs : s < 2) : ∀ (m f f' c0 : Nat), c0 + 16 * m = 64 * (s + 1) → m < f → m < f' → (l_blankLine_21 f (nI (64 * (s + 1))) (nI c0) x = -1 ∧ l_m_appended_145 f' (nI s) (nI c0) y = aE1 (nI s) y ∧ (oE1 (nI s) y → okl_m_appended_145 f' (nI s) (nI c0) y)) ∨ ∃ c, c0 ≤ c ∧ c + 16 ≤ 64 * (s + 1) ∧ l_blankLine_21 f (nI (64 * (s + 1))) (nI c0) x = nI c ∧ l_m_appended_145 f' (nI s) (nI c0) y = aE2 (nI c) y ∧ (oE2 (nI c) y → okl_m_appended_145 f' (nI s) (nI c0) y)
  | m, 0, f', c0, _, h, _ => by omega
  | m, f + 1, 0, c0, _, _, h => by omega
  | 0, f + 1, f' + 1, c0, h0, _, _ => by
    have e : c0 = 64 * (s + 1) := by omega
    subst e
    left
    rw [bk_s, al_s, ao_s, se_1, if_pos (le_t (Nat.le_refl _) (by omega)), if_pos (le_t (Nat.le_refl _) (by omega)), if_pos rfl, if_pos (le_t (Nat.le_refl _) (by omega)), if_pos rfl]
    exact ⟨rfl, rfl, fun h => h⟩
  | m + 1, f + 1, f' + 1, c0, h0, hf, hf' => by
    have hlt : ¬ nI (64 * (s + 1)) ≤ nI c0 := le_f (by omega) (by omega)
    have hne : ¬ nI c0 = nI (64 * (s + 1)) := fun q => hlt (by rw [q]; exact le_t (Nat.le_refl _) (by omega))
    have e16 : nI c0 + 16 = nI (c0 + 16) := nI_add c0 16
    have d1 := ib (a := c0) (x := x) (by omega)
    have d2 : D (clb (gF x) c0) (e_m_isClean (nI c0) y) := D_i (ic (a := c0) (x := y) (by omega)) ⟨fun q j h1 h2 => by rw [← q j h1 h2]; exact (hA.1 j (by omega)).symm, fun q j h1 h2 => by rw [← q j h1 h2]; exact hA.1 j (by omega)⟩
    rw [bk_s, al_s, ao_s, se_1, if_neg hlt, if_neg hlt, if_neg hlt, e16, if_neg hne, if_neg hne]
    by_cases hc : clb (gF x) c0
    · right
      refine ⟨c0, Nat.le_refl _, by omega, ?_, ?_, fun h => ⟨io (by omega), ?_⟩⟩
      · rw [if_neg (fun q => (D_z d1).mp q hc)]
      · rw [if_neg (fun q => (D_z d2).mp q hc)]
      · rw [if_neg (fun q => (D_z d2).mp q hc)]
        exact h
    · rw [if_pos ((D_z d1).mpr hc), if_pos ((D_z d2).mpr hc), if_pos ((D_z d2).mpr hc)]
      rcases bk_q hA hs m f f' (c0 + 16) (by omega) (by omega) (by omega) with ⟨h1, h2, h3⟩ | ⟨c, h1, h2, h3, h4, h5⟩
      · exact Or.inl ⟨h1, h2, fun h => ⟨io (by omega), h3 h⟩⟩
      · exact Or.inr ⟨c, by omega, h2, h3, h4, fun h => ⟨io (by omega), h5 h⟩⟩
/-- behind an append's writes, before look -/
def WA (x y p q : mm_S) (b : Int32) : Prop := ((b = 1 ∧ p.1 12 = 0 ∧ ∀ r, ¬ r = 101 → q.1 r = y.1 r) ∨ (b = 0 ∧ p.1 12 = 1 ∧ q.1 103 = -1 ∧ q.1 104 = 0 ∧ q.1 105 = 0 ∧ q.1 106 = -1)) ∧ RA p q ∧ RC p q ∧ RM p q ∧ RP p q ∧ (∀ r, r < 10 → p.1 r = x.1 r) ∧ (∀ r, ¬ r = 1 → p.2.2 r = x.2.2 r) ∧ (∀ r, ¬ r = 10 → ¬ r = 13 → q.2.2 r = y.2.2 r) ∧ (∀ r, r < 100 ∨ 106 < r → q.1 r = y.1 r)
theorem WW_A0 {x y p q : mm_S} (h : WW x y p q 0) : WA x y p q 0 := by
  obtain ⟨b1, b2, b3, b4, b5, b6, b7, b8, b9, b10, b11⟩ := h
  exact ⟨b1, b2, b3, b4, b5, fun r h => b6 r (by omega) (by omega) (by omega) (by omega), b7, b9, b11⟩
theorem RC_2 {x y : mm_S} (h : RC x y) : RC (mm_setI x 20 (x.1 20 + 1)) (cY y 2) := by
  obtain ⟨h1, h2, h3, h4, h5, h6, h7⟩ := h
  exact ⟨h1, h2, (by show y.2.2 13 2 + 1 = x.1 20 + 1; rw [h3]), h4, h5, h6, h7⟩
theorem WW_A1 {x y p q : mm_S} (h : WW x y p q 1) : WA x y (mm_setI p 20 (p.1 20 + 1)) (cY q 2) 1 := by
  obtain ⟨b1, b2, b3, b4, b5, b6, b7, b8, b9, b10, b11⟩ := h
  refine ⟨b1, RA_c b2 rfl rfl rfl rfl rfl rfl, RC_2 b3, RM_c b4 rfl rfl rfl rfl rfl rfl rfl rfl rfl rfl, RP_c b5 rfl rfl rfl rfl rfl rfl, fun r h => (upd_n (by omega)).trans (b6 r (by omega) (by omega) (by omega) (by omega)), b7, fun r h1 h2 => (gAn h2).trans (b9 r h1 h2), b11⟩
/-- behind an append -/
def AP (x y p q : mm_S) (b : Int32) : Prop := ((b = 1 ∧ p.1 12 = 0 ∧ ∀ r, ¬ r = 101 → q.1 r = y.1 r) ∨ (b = 0 ∧ p.1 12 = 1 ∧ q.1 103 = -1 ∧ q.1 104 = 0 ∧ q.1 105 = 0 ∧ q.1 106 = -1)) ∧ RA p q ∧ RC p q ∧ RM p q ∧ RP p q ∧ LG p ∧ (∃ a, nw (gF p) = some a) ∧ (∀ r, r < 10 → p.1 r = x.1 r) ∧ (∀ r, ¬ r = 1 → ¬ r = 2 → p.2.2 r = x.2.2 r) ∧ (∀ r, ¬ r = 10 → ¬ r = 13 → ¬ r = 15 → q.2.2 r = y.2.2 r) ∧ (∀ r, r < 100 ∨ 106 < r → q.1 r = y.1 r)
theorem sp_some {g : Nat → Int32} {a c : Nat} : ∃ d, sp g a (some c) = some d := by
  unfold sp
  dsimp only
  split
  · exact ⟨_, rfl⟩
  · exact ⟨_, rfl⟩
theorem nwk_some {g : Nat → Int32} : ∀ (k a c : Nat), ∃ d, nwk g k a (some c) = some d
  | 0, a, c => ⟨c, rfl⟩
  | k + 1, a, c => by
    obtain ⟨d, hd⟩ := sp_some (g := g) (a := a) (c := c)
    rw [nwk_s, hd]
    exact nwk_some k (a + 16) d
theorem nwk_w {g : Nat → Int32} {a : Nat} (hw : wh g a = true) : ∀ (k c : Nat) (b : Option Nat), c ≤ a → (a - c) % 16 = 0 → a < c + 16 * k → ∃ d, nwk g k c b = some d
  | 0, c, b, h1, _, h2 => by omega
  | k + 1, c, b, h1, h3, h2 => by
    rw [nwk_s]
    cases b with
    | some e =>
      obtain ⟨d, hd⟩ := sp_some (g := g) (a := c) (c := e)
      rw [hd]
      exact nwk_some k (c + 16) d
    | none =>
      by_cases hc : c = a
      · subst hc
        rw [sp_n hw]
        exact nwk_some k _ _
      · exact nwk_w hw k (c + 16) _ (by omega) (by omega) (by omega)
theorem nw_w {g : Nat → Int32} {a : Nat} (hw : wh g a = true) (h1 : a ≤ 112) (h2 : a % 16 = 0) : ∃ d, nw g = some d := nwk_w hw 8 0 none (by omega) (by omega) (by omega)
theorem WA_P {x y x2 y2 p q : mm_S} {b : Int32} {a : Nat} (h : WA x2 y2 p q b) (ha : a ≤ 112) (ha2 : a % 16 = 0) (hw : wh (gF x) a = true) (hf : ∀ j, a ≤ j → j < a + 16 → p.2.2 1 j = x.2.2 1 j) (e1 : ∀ r, r < 10 → x2.1 r = x.1 r) (e2 : ∀ r, ¬ r = 2 → x2.2.2 r = x.2.2 r) (f1 : y2.1 = y.1) (f2 : ∀ r, ¬ r = 15 → y2.2.2 r = y.2.2 r) : AP x y (e_look p) q b := by
  obtain ⟨b1, b2, b3, b4, b5, b6, b7, b9, b11⟩ := h
  obtain ⟨l1, l2, l3⟩ := lk p
  have c1 : (e_look p).2.2 = p.2.2 := by rw [l2]
  have c0 : (e_look p).2.1 = p.2.1 := by rw [l2]
  have k : ∀ r, r < 21 ∨ 27 < r → (e_look p).1 r = p.1 r := l3
  generalize e_look p = P at *
  refine ⟨?_, RA_c b2 (by rw [c1]) (by rw [c1]) (by rw [c1]) rfl rfl rfl, RC_c b3 rfl (k 13 (by decide)) (k 14 (by decide)) (k 20 (by decide)) (k 5 (by decide)) (k 6 (by decide)) (k 7 (by decide)) (k 8 (by decide)), RM_c b4 (k 30 (by decide)) (k 31 (by decide)) (k 32 (by decide)) (k 33 (by decide)) (by rw [c0]) rfl rfl rfl rfl rfl, RP_c b5 (k 12 (by decide)) (k 10 (by decide)) (k 11 (by decide)) rfl rfl rfl, l1, ?_, fun r h => ((k r (by omega)).trans (b6 r h)).trans (e1 r h), fun r h1 h2 => ?_, fun r h1 h2 h3 => (b9 r h1 h2).trans (f2 r h3), fun r h => (b11 r h).trans (by rw [f1])⟩
  · rw [k 12 (by decide)]
    rw [f1] at b1
    exact b1
  · refine nw_w (a := a) ?_ ha ha2
    rw [← hw]
    refine wh_congr (fun j h1 h2 => ?_)
    unfold gF
    rw [c1, hf j h1 h2]
  · rw [c1]
    exact (b7 r h1).trans (e2 r h2)
