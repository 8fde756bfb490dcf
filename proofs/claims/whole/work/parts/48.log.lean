/-! The newest record: the reference's newest, the class's look. -/
def wh (g : Nat → Int32) (a : Nat) : Bool := decide (g a = 0) && decide (g (a + 15) = 90) && decide (g (a + 4) < 2) && (decide (g (a + 5) < 2) || decide (g (a + 5) = 255)) && decide (g (a + 6) < 4)
def sp (g : Nat → Int32) (a : Nat) (b : Option Nat) : Option Nat := match b with
  | none => if wh g a = true then some a else none
  | some c => if wh g a = true ∧ (rdn g c 4 0).toInt < (rdn g a 4 0).toInt then some a else some c
def ni (b : Option Nat) : Int32 := match b with
  | none => -1
  | some a => nI a
def nwk (g : Nat → Int32) : Nat → Nat → Option Nat → Option Nat
  | 0, _, b => b
  | k + 1, a, b => nwk g k (a + 16) (sp g a b)
def nw (g : Nat → Int32) : Option Nat := nwk g 8 0 none
theorem nwk_s (g : Nat → Int32) (k a : Nat) (b : Option Nat) : nwk g (k + 1) a b = nwk g k (a + 16) (sp g a b) := rfl
theorem wh_t {g : Nat → Int32} {a : Nat} (h1 : g a = 0) (h2 : g (a + 15) = 90) (h3 : g (a + 4) < 2) (h4 : g (a + 5) < 2 ∨ g (a + 5) = 255) (h5 : g (a + 6) < 4) : wh g a = true := by
  simp [wh, h1, h2, h3, h4, h5]
theorem wh_e {g : Nat → Int32} {a : Nat} (h : wh g a = true) : g a = 0 ∧ g (a + 15) = 90 ∧ g (a + 4) < 2 ∧ (g (a + 5) < 2 ∨ g (a + 5) = 255) ∧ g (a + 6) < 4 := by
  simp only [wh, Bool.and_eq_true, Bool.or_eq_true, decide_eq_true_eq] at h
  obtain ⟨⟨⟨⟨h1, h2⟩, h3⟩, h4⟩, h5⟩ := h
  exact ⟨h1, h2, h3, h4, h5⟩
theorem wh_congr {g h : Nat → Int32} {a : Nat} (e : ∀ j, a ≤ j → j < a + 16 → g j = h j) : wh g a = wh h a := by
  unfold wh
  rw [e a (by omega) (by omega), e (a + 15) (by omega) (by omega), e (a + 4) (by omega) (by omega), e (a + 5) (by omega) (by omega), e (a + 6) (by omega) (by omega)]
theorem sp_f {g : Nat → Int32} {a : Nat} (b : Option Nat) (h : ¬ wh g a = true) : sp g a b = b := by
  cases b with
  | none => exact if_neg h
  | some c => exact if_neg (fun q => h q.1)
theorem sp_n {g : Nat → Int32} {a : Nat} (h : wh g a = true) : sp g a none = some a := if_pos h
theorem sp_p {g : Nat → Int32} {a c : Nat} (h : wh g a = true) (h2 : (rdn g c 4 0).toInt < (rdn g a 4 0).toInt) : sp g a (some c) = some a := if_pos ⟨h, h2⟩
theorem sp_k {g : Nat → Int32} {a c : Nat} (h2 : ¬ (rdn g c 4 0).toInt < (rdn g a 4 0).toInt) : sp g a (some c) = some c := if_neg (fun q => h2 q.2)
/-- one that stands lies below, and is whole -/
def nb (g : Nat → Int32) (m : Nat) (b : Option Nat) : Prop := ∀ c, b = some c → c < m ∧ wh g c = true ∧ c % 16 = 0
theorem nb_n (g : Nat → Int32) (m : Nat) : nb g m none := fun _ h => nomatch h
theorem sp_b {g : Nat → Int32} {a : Nat} {b : Option Nat} (ha : a % 16 = 0) (h : nb g a b) : nb g (a + 16) (sp g a b) := by
  intro c hc
  by_cases hw : wh g a = true
  · cases b with
    | none =>
      rw [sp_n hw] at hc
      cases hc
      exact ⟨by omega, hw, ha⟩
    | some d =>
      by_cases h2 : (rdn g d 4 0).toInt < (rdn g a 4 0).toInt
      · rw [sp_p hw h2] at hc
        cases hc
        exact ⟨by omega, hw, ha⟩
      · rw [sp_k h2] at hc
        have := h c hc
        exact ⟨by omega, this.2⟩
  · rw [sp_f b hw] at hc
    have := h c hc
    exact ⟨by omega, this.2⟩
theorem nwk_b {g : Nat → Int32} : ∀ (k a : Nat) (b : Option Nat), a % 16 = 0 → nb g a b → nb g (a + 16 * k) (nwk g k a b)
  | 0, a, b, _, h => h
  | k + 1, a, b, ha, h => by
    have := nwk_b k (a + 16) (sp g a b) (by omega) (sp_b ha h)
    rw [nwk_s, show a + 16 * (k + 1) = a + 16 + 16 * k by omega]
    exact this
theorem nw_b {g : Nat → Int32} {a : Nat} (h : nw g = some a) : a ≤ 112 ∧ wh g a = true ∧ a % 16 = 0 := by
  obtain ⟨h1, h2, h3⟩ := nwk_b (g := g) 8 0 none rfl (nb_n g 0) a h
  exact ⟨by omega, h2, h3⟩
theorem sp_congr {g h : Nat → Int32} {a : Nat} {b : Option Nat} (ha : a < 128) (hm : a % 16 = 0) (e : ∀ j, j < 128 → g j = h j) (hb : nb g a b) : sp g a b = sp h a b := by
  have e1 : wh g a = wh h a := wh_congr (fun j h1 h2 => e j (by omega))
  cases b with
  | none =>
    unfold sp
    rw [e1]
  | some c =>
    obtain ⟨h1, h2, h3⟩ := hb c rfl
    unfold sp
    dsimp only
    rw [e1, rdn_congr (g := g) (h := h) 4 a 0 (fun j h4 h5 => e j (by omega)), rdn_congr (g := g) (h := h) 4 c 0 (fun j h4 h5 => e j (by omega))]
theorem nwk_congr {g h : Nat → Int32} (e : ∀ j, j < 128 → g j = h j) : ∀ (k a : Nat) (b : Option Nat), a + 16 * k ≤ 128 → a % 16 = 0 → nb g a b → nwk g k a b = nwk h k a b
  | 0, a, b, _, _, _ => rfl
  | k + 1, a, b, hk, ha, hb => by
    rw [nwk_s, nwk_s, ← sp_congr (by omega) ha e hb]
    exact nwk_congr e k (a + 16) _ (by omega) (by omega) (sp_b ha hb)
theorem nw_congr {g h : Nat → Int32} (e : ∀ j, j < 128 → g j = h j) : nw g = nw h := nwk_congr e 8 0 none (by decide) rfl (nb_n g 0)
theorem i_2 {v : Int32} : 2 ≤ v ↔ ¬ v < 2 := by rw [Int32.not_lt]
theorem i_3 {v : Int32} : 3 < v ↔ ¬ v < 4 := by
  simp only [Int32.lt_iff_toInt_lt, show (3 : Int32).toInt = 3 by decide, show (4 : Int32).toInt = 4 by decide]
  omega
theorem i_4 {v : Int32} : 4 ≤ v ↔ ¬ v < 4 := by rw [Int32.not_lt]
theorem ni_m (a : Nat) (h : a < 2 ^ 31) : ¬ nI a = -1 := fun q => by
  have e := congrArg Int32.toInt q
  rw [nI_toInt h, show (-1 : Int32).toInt = -1 by decide] at e
  omega
theorem ni_n {b : Option Nat} {m : Nat} {g : Nat → Int32} (hm : m ≤ 2 ^ 31) (hb : nb g m b) : ni b = -1 ↔ b = none := by
  cases b with
  | none => exact ⟨fun _ => rfl, fun _ => rfl⟩
  | some c =>
    obtain ⟨h1, _⟩ := hb c rfl
    exact ⟨fun h => absurd h (ni_m c (by omega)), fun h => nomatch h⟩
/-- the reference's step -/
theorem nm_c {g : Nat → Int32} {y : mm_S} {a c : Nat} (hg : y.2.2 10 = g) (ha : a < 4000) (hc : c < 4000) : lg_cmp (e_m_read 4096 10 (nI a) 4 y) (e_m_read 4096 10 (nI c) 4 y) ≤ 0 ↔ ¬ (rdn g c 4 0).toInt < (rdn g a 4 0).toInt := by
  have e1 : e_m_read 4096 10 (nI a) 4 y = rdn g a 4 0 := by
    rw [← hg]
    exact re_read (b := 4) (by omega)
  have e2 : e_m_read 4096 10 (nI c) 4 y = rdn g c 4 0 := by
    rw [← hg]
    exact re_read (b := 4) (by omega)
  rw [e1, e2, pu_cmp_le]
  omega
theorem nm_s {g : Nat → Int32} {y : mm_S} {k a : Nat} {b : Option Nat} (hg : y.2.2 10 = g) (ha : a < 128) (hb : nb g a b) : l_m_newest_4 (k + 1) (ni b) (nI a) y = l_m_newest_4 k (ni (sp g a b)) (nI (a + 16)) y := by
  have e16 : nI a + 16 = nI (a + 16) := nI_add a 16
  have e15 : nI a + 15 = nI (a + 15) := nI_add a 15
  have e4 : nI a + 4 = nI (a + 4) := nI_add a 4
  have e5 : nI a + 5 = nI (a + 5) := nI_add a 5
  have e6 : nI a + 6 = nI (a + 6) := nI_add a 6
  rw [l_m_newest_4, if_neg (show ¬ (128 : Int32) ≤ nI a from fun q => by
    have := (nI_leI (a := 128) (b := a) (by omega) (by omega)).mp q
    omega)]
  rw [e16, e15, e4, e5, e6, pu_clamp (by omega), pu_clamp (by omega), pu_clamp (by omega), pu_clamp (by omega), pu_clamp (by omega), hg]
  by_cases h1 : g a = 0
  · rw [if_pos h1]
    by_cases h2 : g (a + 15) = 90
    · rw [if_pos h2]
      by_cases h3 : g (a + 4) < 2
      · rw [if_neg (fun q => i_2.mp q h3)]
        have fin : (g (a + 5) < 2 ∨ g (a + 5) = 255) → (if (4 : Int32) ≤ g (a + 6) then l_m_newest_4 k (ni b) (nI (a + 16)) y else if ni b = -1 then l_m_newest_4 k (nI a) (nI (a + 16)) y else if lg_cmp (e_m_read 4096 10 (nI a) 4 y) (e_m_read 4096 10 (ni b) 4 y) ≤ 0 then l_m_newest_4 k (ni b) (nI (a + 16)) y else l_m_newest_4 k (nI a) (nI (a + 16)) y) = l_m_newest_4 k (ni (sp g a b)) (nI (a + 16)) y := by
          intro h5
          by_cases h6 : g (a + 6) < 4
          · have hw := wh_t h1 h2 h3 h5 h6
            rw [if_neg (fun q => i_4.mp q h6)]
            cases b with
            | none =>
              rw [if_pos (show ni none = -1 from rfl), sp_n hw]
              rfl
            | some c =>
              obtain ⟨hc, _⟩ := hb c rfl
              have hne : ¬ ni (some c) = -1 := ni_m c (by omega)
              rw [if_neg hne]
              have hcmp : lg_cmp (e_m_read 4096 10 (nI a) 4 y) (e_m_read 4096 10 (ni (some c)) 4 y) ≤ 0 ↔ ¬ (rdn g c 4 0).toInt < (rdn g a 4 0).toInt := nm_c hg (by omega) (by omega)
              by_cases h7 : (rdn g c 4 0).toInt < (rdn g a 4 0).toInt
              · rw [if_neg (fun q => hcmp.mp q h7), sp_p hw h7]
                rfl
              · rw [if_pos (hcmp.mpr h7), sp_k h7]
          · rw [if_pos (i_4.mpr h6), sp_f b (fun q => h6 (wh_e q).2.2.2.2)]
        by_cases h5 : g (a + 5) < 2
        · rw [if_pos h5]
          exact fin (Or.inl h5)
        · rw [if_neg h5]
          by_cases h5b : g (a + 5) = 255
          · rw [if_pos h5b]
            exact fin (Or.inr h5b)
          · rw [if_neg h5b, sp_f b (fun q => (wh_e q).2.2.2.1.elim h5 h5b)]
      · rw [if_pos (i_2.mpr h3), sp_f b (fun q => h3 (wh_e q).2.2.1)]
    · rw [if_neg h2, sp_f b (fun q => h2 (wh_e q).2.1)]
  · rw [if_neg h1, sp_f b (fun q => h1 (wh_e q).1)]
theorem nm_loop {g : Nat → Int32} {y : mm_S} (hg : y.2.2 10 = g) : ∀ (f k a : Nat) (b : Option Nat), a + 16 * k = 128 → a % 16 = 0 → k < f → nb g a b → l_m_newest_4 f (ni b) (nI a) y = ni (nwk g k a b)
  | 0, k, a, b, _, _, hf, _ => by omega
  | f + 1, 0, a, b, hk, _, _, _ => by
    have e : a = 128 := by omega
    subst e
    rw [l_m_newest_4, if_pos (show (128 : Int32) ≤ nI 128 by decide)]
    rfl
  | f + 1, k + 1, a, b, hk, ha, hf, hb => by
    rw [nm_s hg (by omega) hb, nm_loop hg f k (a + 16) _ (by omega) (by omega) (by omega) (sp_b ha hb), nwk_s]
theorem nm (y : mm_S) : e_m_newest y = ni (nw (y.2.2 10)) := nm_loop (y := y) rfl (mm_fu 0 128) 8 0 none rfl rfl (by decide) (nb_n _ 0)
theorem nmo_loop {g : Nat → Int32} {y : mm_S} (hg : y.2.2 10 = g) : ∀ (f k a : Nat) (b : Option Nat), a + 16 * k = 128 → a % 16 = 0 → k < f → nb g a b → okl_m_newest_4 f (ni b) (nI a) y
  | 0, k, a, b, _, _, hf, _ => by omega
  | f + 1, 0, a, b, hk, _, _, _ => by
    have e : a = 128 := by omega
    subst e
    rw [okl_m_newest_4, if_pos (show (128 : Int32) ≤ nI 128 by decide)]
    trivial
  | f + 1, k + 1, a, b, hk, ha, hf, hb => by
    have ih := nmo_loop hg f k (a + 16) (sp g a b) (by omega) (by omega) (by omega) (sp_b ha hb)
    have e16 : nI a + 16 = nI (a + 16) := nI_add a 16
    have e15 : nI a + 15 = nI (a + 15) := nI_add a 15
    have e4 : nI a + 4 = nI (a + 4) := nI_add a 4
    have e5 : nI a + 5 = nI (a + 5) := nI_add a 5
    have e6 : nI a + 6 = nI (a + 6) := nI_add a 6
    rw [okl_m_newest_4, if_neg (show ¬ (128 : Int32) ≤ nI a from fun q => by
      have := (nI_leI (a := 128) (b := a) (by omega) (by omega)).mp q
      omega)]
    rw [e16, e15, e4, e5, e6, pu_clamp (by omega), pu_clamp (by omega), pu_clamp (by omega), pu_clamp (by omega), pu_clamp (by omega), hg]
    refine ⟨nI_in (by omega) (by decide), ?_⟩
    by_cases h1 : g a = 0
    · rw [if_pos h1]
      refine ⟨nI_in (by omega) (by decide), ?_⟩
      by_cases h2 : g (a + 15) = 90
      · rw [if_pos h2]
        refine ⟨nI_in (by omega) (by decide), ?_⟩
        by_cases h3 : g (a + 4) < 2
        · rw [if_neg (fun q => i_2.mp q h3)]
          refine ⟨nI_in (by omega) (by decide), ?_⟩
          have fin : (g (a + 5) < 2 ∨ g (a + 5) = 255) → (if (4 : Int32) ≤ g (a + 6) then okl_m_newest_4 f (ni b) (nI (a + 16)) y else if ni b = -1 then okl_m_newest_4 f (nI a) (nI (a + 16)) y else (ok_m_read 4096 10 (nI a) 4 y ∧ ok_m_read 4096 10 (ni b) 4 y ∧ if lg_cmp (e_m_read 4096 10 (nI a) 4 y) (e_m_read 4096 10 (ni b) 4 y) ≤ 0 then okl_m_newest_4 f (ni b) (nI (a + 16)) y else okl_m_newest_4 f (nI a) (nI (a + 16)) y)) := by
            intro h5
            by_cases h6 : g (a + 6) < 4
            · have hw := wh_t h1 h2 h3 h5 h6
              rw [if_neg (fun q => i_4.mp q h6)]
              cases b with
              | none =>
                rw [sp_n hw] at ih
                rw [if_pos (show ni none = -1 from rfl)]
                exact ih
              | some c =>
                obtain ⟨hc, _⟩ := hb c rfl
                have hne : ¬ ni (some c) = -1 := ni_m c (by omega)
                rw [if_neg hne]
                refine ⟨ok_rd (b := 4) (by omega) (by decide), ok_rd (b := 4) (by omega) (by decide), ?_⟩
                have hcmp : lg_cmp (e_m_read 4096 10 (nI a) 4 y) (e_m_read 4096 10 (ni (some c)) 4 y) ≤ 0 ↔ ¬ (rdn g c 4 0).toInt < (rdn g a 4 0).toInt := nm_c hg (by omega) (by omega)
                by_cases h7 : (rdn g c 4 0).toInt < (rdn g a 4 0).toInt
                · rw [sp_p hw h7] at ih
                  rw [if_neg (fun q => hcmp.mp q h7)]
                  exact ih
                · rw [sp_k h7] at ih
                  rw [if_pos (hcmp.mpr h7)]
                  exact ih
            · rw [sp_f b (fun q => h6 (wh_e q).2.2.2.2)] at ih
              rw [if_pos (i_4.mpr h6)]
              exact ih
          by_cases h5 : g (a + 5) < 2
          · rw [if_pos h5]
            exact ⟨nI_in (by omega) (by decide), fin (Or.inl h5)⟩
          · rw [if_neg h5]
            refine ⟨nI_in (by omega) (by decide), ?_⟩
            by_cases h5b : g (a + 5) = 255
            · rw [if_pos h5b]
              exact ⟨nI_in (by omega) (by decide), fin (Or.inr h5b)⟩
            · rw [sp_f b (fun q => (wh_e q).2.2.2.1.elim h5 h5b)] at ih
              rw [if_neg h5b]
              exact ih
        · rw [sp_f b (fun q => h3 (wh_e q).2.2.1)] at ih
          rw [if_pos (i_2.mpr h3)]
          exact ih
      · rw [sp_f b (fun q => h2 (wh_e q).2.1)] at ih
        rw [if_neg h2]
        exact ih
    · rw [sp_f b (fun q => h1 (wh_e q).1)] at ih
      rw [if_neg h1]
      exact ih
theorem nm_ok (y : mm_S) : ok_m_newest y := nmo_loop (y := y) rfl (mm_fu 0 128) 8 0 none rfl rfl (by decide) (nb_n _ 0)
