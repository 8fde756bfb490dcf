/-! The class's look: the log's registers are what the flash tells. -/
def gF (x : mm_S) : Nat → Int32 := fun j => x.2.2 1 j &&& 255
theorem gF_b (x : mm_S) (a n : Nat) : byt (gF x) a n := byt_255 _ a n
theorem bF {p : Nat} {x : mm_S} (hp : p < 4096) : e_byteAt 4096 1 (nI p) x = gF x p := ba hp (by decide)
theorem nF {a b : Nat} {x : mm_S} (h : a + b ≤ 4096) : e_numberAt 4096 1 (nI a) (nI b) x = rdn (gF x) a b 0 := re_numb h (by decide)
theorem iw {a : Nat} {x : mm_S} (ha : a + 16 ≤ 4096) : e_isWhole (nI a) x = if wh (gF x) a = true then 1 else 0 := by
  have e15 : nI a + 15 = nI (a + 15) := nI_add a 15
  have e4 : nI a + 4 = nI (a + 4) := nI_add a 4
  have e5 : nI a + 5 = nI (a + 5) := nI_add a 5
  have e6 : nI a + 6 = nI (a + 6) := nI_add a 6
  unfold e_isWhole
  rw [e15, e4, e5, e6, bF (by omega), bF (by omega), bF (by omega), bF (by omega), bF (by omega)]
  generalize gF x = g
  by_cases h1 : g a = 0
  · rw [if_pos h1]
    by_cases h2 : g (a + 15) = 90
    · rw [if_pos h2]
      by_cases h3 : g (a + 4) < 2
      · rw [if_neg (fun q => i_2.mp q h3)]
        have fin : (g (a + 5) < 2 ∨ g (a + 5) = 255) → (if (3 : Int32) < g (a + 6) then (0 : Int32) else 1) = if wh g a = true then 1 else 0 := by
          intro h5
          by_cases h6 : g (a + 6) < 4
          · rw [if_neg (fun q => i_3.mp q h6), if_pos (wh_t h1 h2 h3 h5 h6)]
          · rw [if_pos (i_3.mpr h6), if_neg (fun q => h6 (wh_e q).2.2.2.2)]
        by_cases h5 : g (a + 5) < 2
        · rw [if_pos h5]
          exact fin (Or.inl h5)
        · rw [if_neg h5]
          by_cases h5b : g (a + 5) = 255
          · rw [if_pos h5b]
            exact fin (Or.inr h5b)
          · rw [if_neg h5b, if_neg (fun q => (wh_e q).2.2.2.1.elim h5 h5b)]
      · rw [if_pos (i_2.mpr h3), if_neg (fun q => h3 (wh_e q).2.2.1)]
    · rw [if_neg h2, if_neg (fun q => h2 (wh_e q).2.1)]
  · rw [if_neg h1, if_neg (fun q => h1 (wh_e q).1)]
def lkF (x : mm_S) : mm_S :=
      if (x.1 21) = (-1 : Int32) then
        let x3 := mm_setI x 24 (-1 : Int32)
        let x4 := mm_setI x3 23 (-1 : Int32)
        let x5 := mm_setI x4 25 (0 : Int32)
        let x6 := mm_setI x5 26 (0 : Int32)
        let x7 := mm_setI x6 27 (0 : Int32)
        x7
      else
        let y8 := e_byteAt 4096 1 ((x.1 21) + (5 : Int32)) x
        if y8 = (255 : Int32) then
          let x14 := mm_setI x 24 (-1 : Int32)
          let x15 := mm_setI x14 23 (e_byteAt 4096 1 ((x14.1 21) + (4 : Int32)) x14)
          let x16 := mm_setI x15 25 (e_byteAt 4096 1 ((x15.1 21) + (6 : Int32)) x15)
          let x17 := mm_setI x16 26 (e_byteAt 4096 1 ((x16.1 21) + (7 : Int32)) x16)
          let x18 := mm_setI x17 27 (Int64.toInt32 (e_numberAt 4096 1 ((x17.1 21) + (8 : Int32)) (4 : Int32) x17))
          x18
        else
          let x9 := mm_setI x 24 y8
          let x10 := mm_setI x9 23 (e_byteAt 4096 1 ((x9.1 21) + (4 : Int32)) x9)
          let x11 := mm_setI x10 25 (e_byteAt 4096 1 ((x10.1 21) + (6 : Int32)) x10)
          let x12 := mm_setI x11 26 (e_byteAt 4096 1 ((x11.1 21) + (7 : Int32)) x11)
          let x13 := mm_setI x12 27 (Int64.toInt32 (e_numberAt 4096 1 ((x12.1 21) + (8 : Int32)) (4 : Int32) x12))
          x13
def st5 (z : mm_S) (v4 v3 v5 v6 v7 : Int32) : mm_S := mm_setI (mm_setI (mm_setI (mm_setI (mm_setI z 24 v4) 23 v3) 25 v5) 26 v6) 27 v7
theorem lkF_n {z : mm_S} (h : z.1 21 = -1) : lkF z = st5 z (-1) (-1) 0 0 0 := mm_ifp h rfl
theorem lk_b4 {z x : mm_S} {a : Nat} (h : x.1 21 = nI a) (hf : x.2.2 1 = z.2.2 1) (ha : a + 16 ≤ 4096) : e_byteAt 4096 1 ((x.1 21) + 4) x = gF z (a + 4) := by
  rw [h, show nI a + 4 = nI (a + 4) from nI_add a 4, bF (by omega)]
  unfold gF
  rw [hf]
theorem lk_b5 {z x : mm_S} {a : Nat} (h : x.1 21 = nI a) (hf : x.2.2 1 = z.2.2 1) (ha : a + 16 ≤ 4096) : e_byteAt 4096 1 ((x.1 21) + 5) x = gF z (a + 5) := by
  rw [h, show nI a + 5 = nI (a + 5) from nI_add a 5, bF (by omega)]
  unfold gF
  rw [hf]
theorem lk_b6 {z x : mm_S} {a : Nat} (h : x.1 21 = nI a) (hf : x.2.2 1 = z.2.2 1) (ha : a + 16 ≤ 4096) : e_byteAt 4096 1 ((x.1 21) + 6) x = gF z (a + 6) := by
  rw [h, show nI a + 6 = nI (a + 6) from nI_add a 6, bF (by omega)]
  unfold gF
  rw [hf]
theorem lk_b7 {z x : mm_S} {a : Nat} (h : x.1 21 = nI a) (hf : x.2.2 1 = z.2.2 1) (ha : a + 16 ≤ 4096) : e_byteAt 4096 1 ((x.1 21) + 7) x = gF z (a + 7) := by
  rw [h, show nI a + 7 = nI (a + 7) from nI_add a 7, bF (by omega)]
  unfold gF
  rw [hf]
theorem lk_b8 {z x : mm_S} {a : Nat} (h : x.1 21 = nI a) (hf : x.2.2 1 = z.2.2 1) (ha : a + 16 ≤ 4096) : e_numberAt 4096 1 ((x.1 21) + 8) 4 x = rdn (gF z) (a + 8) 4 0 := by
  have e : e_numberAt 4096 1 (nI (a + 8)) (nI 4) x = rdn (gF x) (a + 8) 4 0 := nF (by omega)
  rw [h, show nI a + 8 = nI (a + 8) from nI_add a 8]
  refine e.trans ?_
  unfold gF
  rw [hf]
theorem st5_g {z : mm_S} {v4 v3 v5 v6 v7 : Int32} {w3 w5 w6 w7 : Int32} (h3 : v3 = w3) (h5 : v5 = w5) (h6 : v6 = w6) (h7 : v7 = w7) : st5 z v4 v3 v5 v6 v7 = st5 z v4 w3 w5 w6 w7 := by
  rw [h3, h5, h6, h7]
theorem lkF_s {z : mm_S} {a : Nat} (h : z.1 21 = nI a) (ha : a + 16 ≤ 4096) : lkF z = st5 z (if gF z (a + 5) = 255 then -1 else gF z (a + 5)) (gF z (a + 4)) (gF z (a + 6)) (gF z (a + 7)) (rdn (gF z) (a + 8) 4 0).toInt32 := by
  have hne : ¬ z.1 21 = -1 := by
    rw [h]
    exact ni_m a (by omega)
  have e5 := lk_b5 (z := z) h rfl ha
  refine mm_ifn hne ?_
  by_cases h5 : gF z (a + 5) = 255
  · rw [if_pos h5]
    refine mm_ifp (e5.trans h5) ?_
    exact st5_g (lk_b4 h rfl ha) (lk_b6 h rfl ha) (lk_b7 h rfl ha) (congrArg Int64.toInt32 (lk_b8 h rfl ha))
  · rw [if_neg h5]
    refine mm_ifn (fun q => h5 (e5.symm.trans q)) ?_
    rw [← e5]
    exact st5_g (lk_b4 h rfl ha) (lk_b6 h rfl ha) (lk_b7 h rfl ha) (congrArg Int64.toInt32 (lk_b8 h rfl ha))
def sr (g : Nat → Int32) (b : Option Nat) : Int32 := match b with
  | none => 0
  | some a => (rdn g a 4 0).toInt32
def st2 (z : mm_S) (v1 v2 : Int32) : mm_S := mm_setI (mm_setI z 21 v1) 22 v2
theorem st2_2 (z : mm_S) (a b c d : Int32) : st2 (st2 z a b) c d = st2 z c d := by
  have e : upd (upd (upd (upd z.1 21 a) 22 b) 21 c) 22 d = upd (upd z.1 21 c) 22 d := by
    funext j
    unfold upd
    by_cases h1 : j = 22
    · rw [if_pos h1, if_pos h1]
    · rw [if_neg h1, if_neg h1]
      by_cases h2 : j = 21
      · rw [if_pos h2, if_neg h1, if_pos h2]
      · rw [if_neg h2, if_neg h1, if_neg h2, if_neg h2]
  show (upd (upd (upd (upd z.1 21 a) 22 b) 21 c) 22 d, z.2.1, z.2.2) = (upd (upd z.1 21 c) 22 d, z.2.1, z.2.2)
  rw [e]
theorem st2_id (z : mm_S) : st2 z (z.1 21) (z.1 22) = z := by
  unfold st2
  rw [gIid]
  exact gIid z 22
theorem lk_s (k : Nat) (u : Int32) (x : mm_S) : l_look_12 (k + 1) u x = if (128 : Int32) ≤ u then lkF x else if e_isWhole u x = 0 then l_look_12 k (u + 16) x else if x.1 21 = -1 then l_look_12 k (u + 16) (st2 x u (Int64.toInt32 (e_numberAt 4096 1 (u + 0) 4 x))) else if e_ucompare (Int64.toInt32 (e_numberAt 4096 1 (u + 0) 4 x)) (x.1 22) x ≤ 0 then l_look_12 k (u + 16) x else l_look_12 k (u + 16) (st2 x u (Int64.toInt32 (e_numberAt 4096 1 (u + 0) 4 x))) := rfl
theorem lk_loop {g : Nat → Int32} : ∀ (f k a : Nat) (b : Option Nat) (x : mm_S), gF x = g → a + 16 * k = 128 → a % 16 = 0 → k < f → nb g a b → x.1 21 = ni b → x.1 22 = sr g b → l_look_12 f (nI a) x = lkF (st2 x (ni (nwk g k a b)) (sr g (nwk g k a b)))
  | 0, k, a, b, x, _, _, _, hf, _, _, _ => by omega
  | f + 1, 0, a, b, x, hg, hk, _, _, _, h1, h2 => by
    have e : a = 128 := by omega
    subst e
    rw [lk_s, if_pos (show (128 : Int32) ≤ nI 128 by decide)]
    show lkF x = lkF (st2 x (ni b) (sr g b))
    rw [← h1, ← h2, st2_id]
  | f + 1, k + 1, a, b, x, hg, hk, ha, hf, hb, h1, h2 => by
    have e16 : nI a + 16 = nI (a + 16) := nI_add a 16
    have e0 : e_numberAt 4096 1 (nI a + 0) 4 x = rdn g a 4 0 := by
      rw [← hg, show nI a + 0 = nI a from nI_add a 0]
      exact nF (a := a) (b := 4) (by omega)
    rw [lk_s, if_neg (show ¬ (128 : Int32) ≤ nI a from fun q => by
      have := (nI_leI (a := 128) (b := a) (by omega) (by omega)).mp q
      omega), e16, e0, iw (by omega), hg, h1, h2, nwk_s]
    have keep : ∀ b', sp g a b = b' → b' = b → l_look_12 f (nI (a + 16)) x = lkF (st2 x (ni (nwk g k (a + 16) (sp g a b))) (sr g (nwk g k (a + 16) (sp g a b)))) := by
      intro b' e1 e2
      have e3 : sp g a b = b := e1.trans e2
      rw [e3]
      have hbb := sp_b ha hb
      rw [e3] at hbb
      exact lk_loop f k (a + 16) b x hg (by omega) (by omega) (by omega) hbb h1 h2
    have take : sp g a b = some a → l_look_12 f (nI (a + 16)) (st2 x (nI a) (rdn g a 4 0).toInt32) = lkF (st2 x (ni (nwk g k (a + 16) (sp g a b))) (sr g (nwk g k (a + 16) (sp g a b)))) := by
      intro e1
      have hbb := sp_b ha hb
      rw [e1] at hbb ⊢
      rw [lk_loop f k (a + 16) (some a) (st2 x (nI a) (rdn g a 4 0).toInt32) hg (by omega) (by omega) (by omega) hbb rfl rfl, st2_2]
    by_cases hw : wh g a = true
    · rw [if_pos hw, if_neg (by decide)]
      cases b with
      | none =>
        rw [if_pos (show ni none = -1 from rfl)]
        exact take (sp_n hw)
      | some c =>
        obtain ⟨hc, _⟩ := hb c rfl
        have hne : ¬ ni (some c) = -1 := ni_m c (by omega)
        rw [if_neg hne]
        have r1 := rd4 (g := g) (a := a) (by rw [← hg]; exact gF_b x _ _)
        have r2 := rd4 (g := g) (a := c) (by rw [← hg]; exact gF_b x _ _)
        have hcmp : e_ucompare (rdn g a 4 0).toInt32 (sr g (some c)) x ≤ 0 ↔ (rdn g a 4 0).toInt ≤ (rdn g c 4 0).toInt := pu_uc_le r1.1 r1.2 r2.1 r2.2
        by_cases h7 : (rdn g c 4 0).toInt < (rdn g a 4 0).toInt
        · rw [if_neg (fun q => by have := hcmp.mp q; omega)]
          exact take (sp_p hw h7)
        · rw [if_pos (hcmp.mpr (by omega))]
          exact keep _ (sp_k h7) rfl
    · rw [if_neg hw, if_pos rfl]
      exact keep _ (sp_f b hw) rfl
def LG (x : mm_S) : Prop := x.1 21 = ni (nw (gF x)) ∧ (nw (gF x) = none → x.1 22 = 0 ∧ x.1 23 = -1 ∧ x.1 24 = -1 ∧ x.1 25 = 0 ∧ x.1 26 = 0 ∧ x.1 27 = 0) ∧ (∀ a, nw (gF x) = some a → x.1 22 = (rdn (gF x) a 4 0).toInt32 ∧ x.1 23 = gF x (a + 4) ∧ x.1 24 = (if gF x (a + 5) = 255 then -1 else gF x (a + 5)) ∧ x.1 25 = gF x (a + 6) ∧ x.1 26 = gF x (a + 7) ∧ x.1 27 = (rdn (gF x) (a + 8) 4 0).toInt32)
/-- what look leaves as it was -/
def LF (x p : mm_S) : Prop := p.2 = x.2 ∧ ∀ r, r < 21 ∨ 27 < r → p.1 r = x.1 r
theorem LF_st (x : mm_S) (a b v4 v3 v5 v6 v7 : Int32) : LF x (st5 (st2 x a b) v4 v3 v5 v6 v7) := by
  refine ⟨rfl, fun r hr => ?_⟩
  show upd (upd (upd (upd (upd (upd (upd x.1 21 a) 22 b) 24 v4) 23 v3) 25 v5) 26 v6) 27 v7 r = x.1 r
  rw [upd_n (by omega), upd_n (by omega), upd_n (by omega), upd_n (by omega), upd_n (by omega), upd_n (by omega), upd_n (by omega)]
theorem lk (x : mm_S) : LG (e_look x) ∧ LF x (e_look x) := by
  have e : e_look x = lkF (st2 x (ni (nw (gF x))) (sr (gF x) (nw (gF x)))) := by
    have e1 : e_look x = l_look_12 (mm_fu 0 128) (nI 0) (st2 x (-1) 0) := rfl
    rw [e1, lk_loop (g := gF x) (mm_fu 0 128) 8 0 none (st2 x (-1) 0) rfl rfl rfl (by decide) (nb_n _ 0) rfl rfl, st2_2]
    rfl
  cases hn : nw (gF x) with
  | none =>
    rw [hn] at e
    have e2 : e_look x = st5 (st2 x (-1) 0) (-1) (-1) 0 0 0 := e.trans (lkF_n rfl)
    rw [e2]
    refine ⟨⟨?_, fun _ => ⟨rfl, rfl, rfl, rfl, rfl, rfl⟩, fun a ha => ?_⟩, LF_st x _ _ _ _ _ _ _⟩
    · show (-1 : Int32) = ni (nw (gF x))
      rw [hn]
      rfl
    · have : nw (gF x) = some a := ha
      rw [hn] at this
      cases this
  | some a =>
    rw [hn] at e
    have hb := nw_b hn
    have e2 : e_look x = st5 (st2 x (nI a) (rdn (gF x) a 4 0).toInt32) (if gF x (a + 5) = 255 then -1 else gF x (a + 5)) (gF x (a + 4)) (gF x (a + 6)) (gF x (a + 7)) (rdn (gF x) (a + 8) 4 0).toInt32 := e.trans (lkF_s (z := st2 x (nI a) (rdn (gF x) a 4 0).toInt32) rfl (by omega))
    rw [e2]
    refine ⟨⟨?_, fun h => ?_, fun b hb => ?_⟩, LF_st x _ _ _ _ _ _ _⟩
    · show nI a = ni (nw (gF x))
      rw [hn]
      rfl
    · have : nw (gF x) = none := h
      rw [hn] at this
      cases this
    · have : nw (gF x) = some b := hb
      rw [hn] at this
      cases this
      exact ⟨rfl, rfl, rfl, rfl, rfl, rfl⟩
/-- the log's registers stay what they are while the first 128 bytes stay -/
theorem LG_c {x p : mm_S} (h : LG x) (e : ∀ j, j < 128 → gF p j = gF x j) (e1 : p.1 21 = x.1 21) (e2 : p.1 22 = x.1 22) (e3 : p.1 23 = x.1 23) (e4 : p.1 24 = x.1 24) (e5 : p.1 25 = x.1 25) (e6 : p.1 26 = x.1 26) (e7 : p.1 27 = x.1 27) : LG p := by
  have en : nw (gF p) = nw (gF x) := nw_congr e
  obtain ⟨h1, h2, h3⟩ := h
  refine ⟨by rw [e1, en]; exact h1, fun q => ?_, fun a q => ?_⟩
  · rw [e2, e3, e4, e5, e6, e7]
    exact h2 (en ▸ q)
  · have q2 : nw (gF x) = some a := en ▸ q
    have hb := nw_b q2
    rw [e2, e3, e4, e5, e6, e7, e (a + 4) (by omega), e (a + 5) (by omega), e (a + 6) (by omega), e (a + 7) (by omega), rdn_congr (g := gF p) (h := gF x) 4 a 0 (fun j h4 h5 => e j (by omega)), rdn_congr (g := gF p) (h := gF x) 4 (a + 8) 0 (fun j h4 h5 => e j (by omega))]
    exact h3 a q2
theorem LG_cx {x p : mm_S} (h : LG x) (e : p.2.2 1 = x.2.2 1) (e1 : p.1 21 = x.1 21) (e2 : p.1 22 = x.1 22) (e3 : p.1 23 = x.1 23) (e4 : p.1 24 = x.1 24) (e5 : p.1 25 = x.1 25) (e6 : p.1 26 = x.1 26) (e7 : p.1 27 = x.1 27) : LG p := LG_c h (fun j _ => by unfold gF; rw [e]) e1 e2 e3 e4 e5 e6 e7
def R (x y : mm_S) : Prop := RA x y ∧ RC x y ∧ RM x y ∧ RP x y ∧ RV x y ∧ LG x
theorem R_nw {x y : mm_S} (h : RA x y) : nw (y.2.2 10) = nw (gF x) := nw_congr (fun j hj => h.1 j (by omega))
theorem R_nm {x y : mm_S} (h : RA x y) (hl : LG x) : e_m_newest y = x.1 21 := by
  rw [nm, R_nw h, hl.1]
theorem LG_J {x : mm_S} (h : LG x) : mm_J x := by
  unfold mm_J
  rw [h.1]
  cases hn : nw (gF x) with
  | none => exact Or.inl rfl
  | some a =>
    obtain ⟨h1, _, h3⟩ := nw_b hn
    obtain ⟨c, hc⟩ : ∃ c, a = 16 * c := ⟨a / 16, by omega⟩
    have : c = 0 ∨ c = 1 ∨ c = 2 ∨ c = 3 ∨ c = 4 ∨ c = 5 ∨ c = 6 ∨ c = 7 := by omega
    right
    subst hc
    rcases this with h | h | h | h | h | h | h | h <;> subst h <;> decide
