/-! A header that is right; a slot that is good. -/
theorem rdn_s (f : Nat → Int32) (h : Nat) : ∀ (n a : Nat) (v : Int64), rdn f (h + a) n v = rdn (fun j => f (h + j)) a n v
  | 0, _, _ => rfl
  | n + 1, a, v => rdn_s f h n (a + 1) _
theorem dgs_h (st : Int64 → Int32 → Int64) (f : Nat → Int32) (h : Nat) : ∀ (n a : Nat) (v : Int64), dgs st f (h + a) n v = dgs st (fun j => f (h + j)) a n v
  | 0, _, _ => rfl
  | n + 1, a, v => by
    rw [dgs_s, dgs_s]
    exact dgs_h st f h n (a + 1) _
def RT (g : Nat → Int32) (kn : Int32 → Int64) (rv : Int32) : Prop := rdn g 0 4 0 = 1415008083 ∧ (1 ≤ (rdn g 8 4 0).toInt ∧ (rdn g 8 4 0).toInt ≤ 30) ∧ g 12 < 4 ∧ (∀ j, 13 ≤ j → j < 20 → g j = 0) ∧ (∀ j, 28 ≤ j → j < 56 → g j = 0) ∧ rdn g 56 8 0 = dgs dg g 0 56 (kn (g 12)) ∧ ¬ (rv >>> (g 12 &&& 31)) &&& 1 = 1
theorem RT_congr {g h : Nat → Int32} {kn : Int32 → Int64} {rv : Int32} (e : ∀ j, j < 64 → g j = h j) (H : RT g kn rv) : RT h kn rv := by
  have r : ∀ n a, a + n ≤ 64 → rdn h a n 0 = rdn g a n 0 := fun n a hn => rdn_congr n a 0 (fun j h1 h2 => (e j (by omega)).symm)
  obtain ⟨h1, h2, h3, h4, h5, h6, h7⟩ := H
  refine ⟨by rw [r 4 0 (by decide)]; exact h1, by rw [r 4 8 (by decide)]; exact h2, by rw [← e 12 (by decide)]; exact h3, fun j j1 j2 => by rw [← e j (by omega)]; exact h4 j j1 j2, fun j j1 j2 => by rw [← e j (by omega)]; exact h5 j j1 j2, ?_, by rw [← e 12 (by decide)]; exact h7⟩
  rw [r 8 56 (by decide), ← e 12 (by decide), dgs_congr (g := h) (h := g) 56 0 _ (fun j _ h2 => (e j (by omega)).symm)]
  exact h6
/-! the class -/
def g3 (x : mm_S) : Nat → Int32 := fun j => x.2.2 3 j &&& 255
theorem g3_b (x : mm_S) (a n : Nat) : byt (g3 x) a n := byt_255 _ a n
theorem n3 {a b : Nat} {x : mm_S} (h : a + b ≤ 64) : e_numberAt 64 3 (nI a) (nI b) x = rdn (g3 x) a b 0 := re_numb h (by decide)
theorem b3 {p : Nat} {x : mm_S} (hp : p < 64) : e_byteAt 64 3 (nI p) x = g3 x p := ba hp (by decide)
theorem mn {a b : Nat} {x : mm_S} (h : a ≤ b) (hb : b < 2 ^ 31) : e_min (nI a) (Int32.ofNat b) x = nI a := by
  unfold e_min
  rw [pu_lit]
  split
  · next q => exact absurd ((nI_ltI (by omega) (by omega)).mp q) (by omega)
  · rfl
theorem mx {a : Nat} {x : mm_S} (h : a < 2 ^ 31) : e_max (nI a) 0 x = nI a := by
  unfold e_max
  exact if_neg (nI_pos h)
theorem dgc {n r a e : Nat} {v : Int64} {x : mm_S} (h1 : a ≤ e) (h2 : e ≤ n) (hn : n < 2 ^ 31) : e_digest v n r (nI a) (nI e) x = dgs dg (fun j => x.2.2 r j &&& 255) a (e - a) v := by
  unfold e_digest
  dsimp only
  rw [mn h2 hn, mx (by omega), pu_fu (by omega) (by omega), dg_loop (by omega) _ _ _ h1 (by omega)]
/-- a method's answer 1 or 0 says whether P -/
def D (P : Prop) (b : Int32) : Prop := (P → b = 1) ∧ (¬ P → b = 0)
theorem D_z {P : Prop} {b : Int32} (h : D P b) : b = 0 ↔ ¬ P := by
  by_cases hp : P
  · rw [h.1 hp]
    exact ⟨fun q => absurd q (by decide), fun q => absurd hp q⟩
  · exact ⟨fun _ => hp, h.2⟩
theorem D_p {P Q : Prop} {c : Prop} {inst : Decidable c} {v : Int32} (hc : c ↔ P) (h : P → D Q v) : D (P ∧ Q) (@ite Int32 c inst v 0) := by
  by_cases hp : P
  · rw [if_pos (hc.mpr hp)]
    exact ⟨fun q => (h hp).1 q.2, fun q => (h hp).2 (fun q2 => q ⟨hp, q2⟩)⟩
  · rw [if_neg (fun q => hp (hc.mp q))]
    exact ⟨fun q => absurd q.1 hp, fun _ => rfl⟩
theorem D_n {P Q : Prop} {c : Prop} {inst : Decidable c} {v : Int32} (hc : c ↔ ¬ P) (h : P → D Q v) : D (P ∧ Q) (@ite Int32 c inst 0 v) := by
  by_cases hp : P
  · rw [if_neg (fun q => hc.mp q hp)]
    exact ⟨fun q => (h hp).1 q.2, fun q => (h hp).2 (fun q2 => q ⟨hp, q2⟩)⟩
  · rw [if_pos (hc.mpr hp)]
    exact ⟨fun q => absurd q.1 hp, fun _ => rfl⟩
theorem D_1 {P : Prop} {c : Prop} {inst : Decidable c} (hc : c ↔ P) : D P (@ite Int32 c inst 1 0) := by
  by_cases hp : P
  · rw [if_pos (hc.mpr hp)]
    exact ⟨fun _ => rfl, fun q => absurd hp q⟩
  · rw [if_neg (fun q => hp (hc.mp q))]
    exact ⟨fun q => absurd q hp, fun _ => rfl⟩
theorem D_0 {P : Prop} {c : Prop} {inst : Decidable c} (hc : c ↔ ¬ P) : D P (@ite Int32 c inst 0 1) := by
  by_cases hp : P
  · rw [if_neg (fun q => hc.mp q hp)]
    exact ⟨fun _ => rfl, fun q => absurd hp q⟩
  · rw [if_pos (hc.mpr hp)]
    exact ⟨fun q => absurd q hp, fun _ => rfl⟩
theorem D_i {P Q : Prop} {b : Int32} (h : D P b) (e : P ↔ Q) : D Q b := ⟨fun q => h.1 (e.mpr q), fun q => h.2 (fun p => q (e.mp p))⟩
theorem D_e {P : Prop} {a b : Int32} (h : D P a) (h' : D P b) : a = b := by
  by_cases hp : P
  · rw [h.1 hp, h'.1 hp]
  · rw [h.2 hp, h'.2 hp]
theorem iz_s (k : Nat) (u2 u3 : Int32) (x : mm_S) : l_hs_iszero_2 (k + 1) u2 u3 x = if u2 ≤ u3 then 1 else if e_byteAt 64 3 u3 x = 0 then l_hs_iszero_2 k u2 (u3 + 1) x else 0 := rfl
theorem iz_l {e : Nat} {x : mm_S} (he : e ≤ 64) : ∀ (k i : Nat), i ≤ e → e - i < k → D (∀ j, i ≤ j → j < e → g3 x j = 0) (l_hs_iszero_2 k (nI e) (nI i) x)
  | 0, i, _, hk => by omega
  | k + 1, i, hi, hk => by
    by_cases h : e ≤ i
    · rw [iz_s, if_pos (le_t h (by omega))]
      exact ⟨fun _ => rfl, fun q => absurd (fun j h1 h2 => by omega) q⟩
    · have ih := iz_l (x := x) he k (i + 1) (by omega) (by omega)
      rw [iz_s, if_neg (le_f (by omega) (by omega)), b3 (by omega), nI_1]
      refine D_i (D_p Iff.rfl (fun _ => ih)) ⟨fun q j h1 h2 => ?_, fun q => ⟨q i (Nat.le_refl i) (by omega), fun j h1 h2 => q j (by omega) h2⟩⟩
      by_cases hj : j = i
      · rw [hj]
        exact q.1
      · exact q.2 j (by omega) h2
theorem iz {a e : Nat} {x : mm_S} (h1 : a ≤ e) (he : e ≤ 64) : D (∀ j, a ≤ j → j < e → g3 x j = 0) (e_hs_iszero (nI a) (nI e) x) := by
  unfold e_hs_iszero
  exact iz_l (x := x) he (mm_fu (nI a) (nI e)) a h1 (by rw [pu_fu (by omega) (by omega)]; omega)
theorem sz_1 {p : Int64} (h0 : 0 ≤ p.toInt) (h1 : p.toInt < 2 ^ 32) (h2 : ¬ p.toInt32 < 1) : (30 < p.toInt32 ↔ ¬ p.toInt ≤ 30) := by
  rw [Int32.lt_iff_toInt_lt, pu_32, Int.bmod_def, show (1 : Int32).toInt = 1 by decide] at h2
  rw [Int32.lt_iff_toInt_lt, pu_32, Int.bmod_def, show (30 : Int32).toInt = 30 by decide]
  split at h2 <;> split <;> omega
def P1 (p : Int64) : Prop := ¬ p.toInt32 < 1
theorem sz_2 {p : Int64} (h0 : 0 ≤ p.toInt) (h1 : p.toInt < 2 ^ 32) : (P1 p ∧ p.toInt ≤ 30) ↔ (1 ≤ p.toInt ∧ p.toInt ≤ 30) := by
  unfold P1
  rw [Int32.lt_iff_toInt_lt, pu_32, Int.bmod_def, show (1 : Int32).toInt = 1 by decide]
  split <;> omega
theorem s3_v (x : mm_S) : e_hs_version x = (rdn (g3 x) 4 4 0).toInt32 := congrArg Int64.toInt32 (n3 (a := 4) (b := 4) (by decide))
theorem s3_s (x : mm_S) : e_hs_size x = (rdn (g3 x) 8 4 0).toInt32 := congrArg Int64.toInt32 (n3 (a := 8) (b := 4) (by decide))
theorem s3_k (x : mm_S) : e_hs_key x = g3 x 12 := b3 (p := 12) (by decide)
theorem s3_b (x : mm_S) : e_hs_bdigest x = rdn (g3 x) 20 8 0 := n3 (a := 20) (b := 8) (by decide)
theorem fm_c (x : mm_S) : D (rdn (g3 x) 0 4 0 = 1415008083 ∧ (1 ≤ (rdn (g3 x) 8 4 0).toInt ∧ (rdn (g3 x) 8 4 0).toInt ≤ 30) ∧ g3 x 12 < 4 ∧ (∀ j, 13 ≤ j → j < 20 → g3 x j = 0) ∧ (∀ j, 28 ≤ j → j < 56 → g3 x j = 0)) (e_hs_form x) := by
  have e0 : e_numberAt 64 3 0 4 x = rdn (g3 x) 0 4 0 := n3 (a := 0) (b := 4) (by decide)
  have r0 := rd4 (g := g3 x) (a := 0) (g3_b x _ _)
  have r8 := rd4 (g := g3 x) (a := 8) (g3_b x _ _)
  have z1 : D (∀ j, 13 ≤ j → j < 20 → g3 x j = 0) (e_hs_iszero 13 20 x) := iz (a := 13) (e := 20) (x := x) (by decide) (by decide)
  have z2 : D (∀ j, 28 ≤ j → j < 56 → g3 x j = 0) (e_hs_iszero 28 56 x) := iz (a := 28) (e := 56) (x := x) (by decide) (by decide)
  have m0 : (rdn (g3 x) 0 4 0).toInt32 = 1415008083 ↔ rdn (g3 x) 0 4 0 = 1415008083 := by
    rw [pu_32eq r0.1 r0.2 (by decide), ← Int64.toInt_inj]
    exact Iff.rfl
  unfold e_hs_form
  rw [e0, s3_s, s3_k]
  generalize rdn (g3 x) 0 4 0 = p0 at *
  generalize rdn (g3 x) 8 4 0 = p8 at *
  refine D_i (D_p m0 (fun _ => D_n (P := P1 p8) (Decidable.not_not).symm (fun h => D_n (P := p8.toInt ≤ 30) (sz_1 r8.1 r8.2 h) (fun _ => D_n (P := g3 x 12 < 4) i_4 (fun _ => D_n (D_z z1) (fun _ => D_0 (D_z z2))))))) ?_
  rw [← sz_2 r8.1 r8.2, and_assoc]
theorem kn_c (k : Int32) (x : mm_S) : e_keyNumber k x = (x.2.1 0) ^^^ ((Int32.toInt64 k) * (1099511628211 : Int64)) := rfl
theorem ir_c (x : mm_S) : D (RT (g3 x) (fun k => (x.2.1 0) ^^^ ((Int32.toInt64 k) * (1099511628211 : Int64))) (x.1 26)) (e_isRight x) := by
  have f := fm_c x
  have e56 : e_numberAt 64 3 56 8 x = rdn (g3 x) 56 8 0 := n3 (a := 56) (b := 8) (by decide)
  have ed : ∀ v, e_digest v 64 3 0 56 x = dgs dg (g3 x) 0 56 v := fun v => dgc (n := 64) (r := 3) (a := 0) (e := 56) (v := v) (x := x) (by decide) (by decide) (by decide)
  have hs : D (rdn (g3 x) 56 8 0 = dgs dg (g3 x) 0 56 (e_keyNumber (g3 x 12) x)) (e_hs_sealed (e_keyNumber (g3 x 12) x) x) := by
    unfold e_hs_sealed
    rw [e56, ed]
    exact D_1 pu_cmp_eq
  have hr : D ((((x.1 26) >>> ((g3 x 12) &&& 31)) &&& (1 : Int32)) = 1) (e_isRevoked (g3 x 12) x) := D_1 Iff.rfl
  unfold e_isRight
  rw [s3_k]
  refine D_i (D_n (D_z f) (fun _ => D_n (D_z hs) (fun _ => D_1 (D_z hr)))) ?_
  unfold RT
  simp only [and_assoc]
  exact Iff.rfl
/-! the reference -/
theorem m68_s (k n r : Nat) (u2 u3 u4 : Int32) (x : mm_S) : l_m_isRight_68 (k + 1) n r u2 u3 u4 x = if nI 56 ≤ u4 then l_m_isRight_115 (mm_fu (0 : Int32) 56) n r u2 u3 (e_m_numberOf (x.2.2 r (Int32.toNatClampNeg (u2 + (12 : Int32)))) x) (0 : Int32) x else if u3 = 0 then l_m_isRight_68 k n r u2 0 (u4 + 1) x else if x.2.2 r (Int32.toNatClampNeg (u2 + u4)) = 0 then l_m_isRight_68 k n r u2 1 (u4 + 1) x else l_m_isRight_68 k n r u2 0 (u4 + 1) x := rfl
theorem o68_s (k n r : Nat) (u2 u3 u4 : Int32) (x : mm_S) : okl_m_isRight_68 (k + 1) n r u2 u3 u4 x = if nI 56 ≤ u4 then (vp_in (u2 + (12 : Int32)) n ∧ okl_m_isRight_115 (mm_fu (0 : Int32) 56) n r u2 u3 (e_m_numberOf (x.2.2 r (Int32.toNatClampNeg (u2 + (12 : Int32)))) x) (0 : Int32) x) else if u3 = 0 then okl_m_isRight_68 k n r u2 0 (u4 + 1) x else (vp_in (u2 + u4) n ∧ if x.2.2 r (Int32.toNatClampNeg (u2 + u4)) = 0 then okl_m_isRight_68 k n r u2 1 (u4 + 1) x else okl_m_isRight_68 k n r u2 0 (u4 + 1) x) := rfl
def irE (n0 r0 : Nat) (u2 u3 : Int32) (u4 : Int64) (x : mm_S) : Int32 :=
      if (e_m_newest x) = (-1 : Int32) then
        if u3 = (0 : Int32) then
          (0 : Int32)
        else
          if (lg_cmp u4 (e_m_read n0 r0 (u2 + (56 : Int32)) (8 : Int32) x)) = (0 : Int32) then
            (1 : Int32)
          else
            (0 : Int32)
      else
        if (((x.2.2 10 (Int32.toNatClampNeg ((e_m_newest x) + (7 : Int32)))) >>> ((x.2.2 r0 (Int32.toNatClampNeg (u2 + (12 : Int32)))) &&& 31)) &&& (1 : Int32)) = (1 : Int32) then
          if u3 = (0 : Int32) then
            (0 : Int32)
          else
            if (lg_cmp u4 (e_m_read n0 r0 (u2 + (56 : Int32)) (8 : Int32) x)) = (0 : Int32) then
              (0 : Int32)
            else
              (0 : Int32)
        else
          if u3 = (0 : Int32) then
            (0 : Int32)
          else
            if (lg_cmp u4 (e_m_read n0 r0 (u2 + (56 : Int32)) (8 : Int32) x)) = (0 : Int32) then
              (1 : Int32)
            else
              (0 : Int32)
theorem m115_s (k n r : Nat) (u2 u3 : Int32) (u4 : Int64) (u6 : Int32) (x : mm_S) : l_m_isRight_115 (k + 1) n r u2 u3 u4 u6 x = if nI 56 ≤ u6 then irE n r u2 u3 u4 x else l_m_isRight_115 k n r u2 u3 (dg u4 (x.2.2 r (Int32.toNatClampNeg (u2 + u6)))) (u6 + 1) x := by
  rw [← dg_m u4 (x.2.2 r (Int32.toNatClampNeg (u2 + u6))) x]
  rfl
theorem m115_l {n r h : Nat} {u3 : Int32} {x : mm_S} (hh : h + 64 < 2 ^ 31) : ∀ (k i : Nat) (d : Int64), i ≤ 56 → 56 - i < k → l_m_isRight_115 k n r (nI h) u3 d (nI i) x = irE n r (nI h) u3 (dgs dg (x.2.2 r) (h + i) (56 - i) d) x
  | 0, i, d, _, hk => by omega
  | k + 1, i, d, hi, hk => by
    by_cases q : 56 ≤ i
    · have e0 : 56 - i = 0 := by omega
      rw [m115_s, if_pos (le_t (n := 56) q (by omega)), e0]
      rfl
    · obtain ⟨c, hc⟩ : ∃ c, 56 - i = c + 1 := ⟨56 - i - 1, by omega⟩
      rw [m115_s, if_neg (le_f (n := 56) (by omega) (by omega)), nI_1, nI_add, pu_clamp (by omega), m115_l hh k (i + 1) _ (by omega) (by omega), hc, dgs_s, show 56 - (i + 1) = c by omega]
      rfl
theorem m68_0 {n r h : Nat} {x : mm_S} : ∀ (k i : Nat), i ≤ 56 → 56 - i < k → l_m_isRight_68 k n r (nI h) 0 (nI i) x = l_m_isRight_115 (mm_fu (0 : Int32) 56) n r (nI h) 0 (e_m_numberOf (x.2.2 r (Int32.toNatClampNeg (nI h + (12 : Int32)))) x) (0 : Int32) x
  | 0, i, _, hk => by omega
  | k + 1, i, hi, hk => by
    by_cases q : 56 ≤ i
    · rw [m68_s, if_pos (le_t (n := 56) q (by omega))]
    · rw [m68_s, if_neg (le_f (n := 56) (by omega) (by omega)), if_pos rfl, nI_1, m68_0 k (i + 1) (by omega) (by omega)]
theorem m68_l {n r h : Nat} {x : mm_S} (hh : h + 64 < 2 ^ 31) : ∀ (k i : Nat), i ≤ 56 → 56 - i < k → ∃ u3 : Int32, D (∀ j, i ≤ j → j < 56 → x.2.2 r (h + j) = 0) u3 ∧ l_m_isRight_68 k n r (nI h) 1 (nI i) x = l_m_isRight_115 (mm_fu (0 : Int32) 56) n r (nI h) u3 (e_m_numberOf (x.2.2 r (Int32.toNatClampNeg (nI h + (12 : Int32)))) x) (0 : Int32) x
  | 0, i, _, hk => by omega
  | k + 1, i, hi, hk => by
    by_cases q : 56 ≤ i
    · refine ⟨1, ⟨fun _ => rfl, fun q2 => absurd (fun j h1 h2 => by omega) q2⟩, ?_⟩
      rw [m68_s, if_pos (le_t (n := 56) q (by omega))]
    · rw [m68_s, if_neg (le_f (n := 56) (by omega) (by omega)), if_neg (by decide), nI_1, nI_add, pu_clamp (by omega)]
      by_cases hz : x.2.2 r (h + i) = 0
      · obtain ⟨u3, h1, h2⟩ := m68_l hh k (i + 1) (by omega) (by omega)
        refine ⟨u3, D_i h1 ⟨fun q2 j h1 h2 => ?_, fun q2 j h1 h2 => q2 j (by omega) h2⟩, by rw [if_pos hz]; exact h2⟩
        by_cases hj : j = i
        · rw [hj]
          exact hz
        · exact q2 j (by omega) h2
      · refine ⟨0, ⟨fun q2 => absurd (q2 i (Nat.le_refl i) (by omega)) hz, fun _ => rfl⟩, ?_⟩
        rw [if_neg hz]
        exact m68_0 k (i + 1) (by omega) (by omega)
theorem sh_0 (k : Int32) : ¬ ((0 : Int32) >>> k) &&& 1 = 1 := by
  rw [Int32.zero_shiftRight]
  decide
/-- what is revoked, as the reference reads it -/
def rvY (y : mm_S) : Int32 := match nw (y.2.2 10) with
  | none => 0
  | some a => y.2.2 10 (a + 7)
theorem irE_D {n r h : Nat} {u3 : Int32} {u4 : Int64} {y : mm_S} {Z : Prop} (hh : h + 64 ≤ n) (hn : n < 2 ^ 31) (hz : D Z u3) : D (Z ∧ rdn (y.2.2 r) (h + 56) 8 0 = u4 ∧ ¬ ((rvY y) >>> ((y.2.2 r (h + 12)) &&& 31)) &&& 1 = 1) (irE n r (nI h) u3 u4 y) := by
  have e56 : nI h + 56 = nI (h + 56) := nI_add h 56
  have e12 : nI h + 12 = nI (h + 12) := nI_add h 12
  have er : e_m_read n r (nI (h + 56)) 8 y = rdn (y.2.2 r) (h + 56) 8 0 := re_read (b := 8) (by omega)
  have eq1 : (lg_cmp u4 (rdn (y.2.2 r) (h + 56) 8 0) = 0) ↔ rdn (y.2.2 r) (h + 56) 8 0 = u4 := by
    rw [pu_cmp_eq]
    exact eq_comm
  unfold irE
  rw [nm, e56, e12, er, pu_clamp (n := h + 12) (by omega)]
  unfold rvY
  cases hw : nw (y.2.2 10) with
  | none =>
    dsimp only
    rw [if_pos (show ni none = -1 from rfl)]
    refine D_i (D_n (D_z hz) (fun _ => D_1 eq1)) ⟨fun q => ⟨q.1, q.2, sh_0 _⟩, fun q => ⟨q.1, q.2.1⟩⟩
  | some a =>
    have hb := nw_b hw
    have e7 : ni (some a) + 7 = nI (a + 7) := nI_add a 7
    have hne : ¬ ni (some a) = -1 := ni_m a (by omega)
    dsimp only
    rw [if_neg hne, e7, pu_clamp (n := a + 7) (by omega)]
    by_cases hq : ((y.2.2 10 (a + 7)) >>> ((y.2.2 r (h + 12)) &&& 31)) &&& 1 = 1
    · rw [if_pos hq]
      refine ⟨fun q => absurd hq q.2.2, fun _ => ?_⟩
      split
      · rfl
      · split <;> rfl
    · rw [if_neg hq]
      exact D_i (D_n (D_z hz) (fun _ => D_1 eq1)) ⟨fun q => ⟨q.1, q.2, hq⟩, fun q => ⟨q.1, q.2.1⟩⟩
theorem ir_m {n r h : Nat} {y : mm_S} (hh : h + 64 ≤ n) (hn : n < 2 ^ 31) (hb : byt (y.2.2 r) h 64) : D (RT (fun j => y.2.2 r (h + j)) (fun k => (y.2.1 10) ^^^ ((Int32.toInt64 k) * (1099511628211 : Int64))) (rvY y)) (e_m_isRight n r (nI h) y) := by
  have e8 : nI h + 8 = nI (h + 8) := nI_add h 8
  have e12 : nI h + 12 = nI (h + 12) := nI_add h 12
  have e13 : nI h + 13 = nI (h + 13) := nI_add h 13
  have r0 : e_m_read n r (nI h) 4 y = rdn (fun j => y.2.2 r (h + j)) 0 4 0 := by
    rw [← rdn_s]
    exact re_read (b := 4) (by omega)
  have r8 : e_m_read n r (nI (h + 8)) 4 y = rdn (fun j => y.2.2 r (h + j)) 8 4 0 := by
    rw [← rdn_s]
    exact re_read (b := 4) (by omega)
  have r13 : e_m_read n r (nI (h + 13)) 7 y = rdn (fun j => y.2.2 r (h + j)) 13 7 0 := by
    rw [← rdn_s]
    exact re_read (b := 7) (by omega)
  have hz := rd7_zero (g := fun j => y.2.2 r (h + j)) (a := 13) (fun j h1 h2 => hb (h + j) (by omega) (by omega))
  obtain ⟨u3, d1, d2⟩ := m68_l (n := n) (r := r) (h := h) (x := y) (by omega) (mm_fu 28 56) 28 (by decide) (by decide)
  have d2' : l_m_isRight_68 (mm_fu 28 56) n r (nI h) 1 28 y = irE n r (nI h) u3 (dgs dg (y.2.2 r) (h + 0) (56 - 0) (e_m_numberOf (y.2.2 r (Int32.toNatClampNeg (nI h + (12 : Int32)))) y)) y := d2.trans (m115_l (by omega) (mm_fu 0 56) 0 _ (by decide) (by decide))
  rw [e12, pu_clamp (n := h + 12) (by omega), dgs_h] at d2'
  have dE := irE_D (u4 := dgs dg (fun j => y.2.2 r (h + j)) 0 (56 - 0) (e_m_numberOf (y.2.2 r (h + 12)) y)) (y := y) (r := r) hh hn d1
  rw [rdn_s] at dE
  rw [← d2'] at dE
  unfold e_m_isRight
  rw [e8, e12, e13, r0, r8, r13, pu_clamp (n := h + 12) (by omega)]
  have c8 : (e_m_in (rdn (fun j => y.2.2 r (h + j)) 8 4 0) 1 30 y = 0) ↔ ¬ (1 ≤ (rdn (fun j => y.2.2 r (h + j)) 8 4 0).toInt ∧ (rdn (fun j => y.2.2 r (h + j)) 8 4 0).toInt ≤ 30) := pu_in
  refine D_i (D_p pu_cmp_eq (fun _ => D_n c8 (fun _ => D_n (P := y.2.2 r (h + 12) < 4) i_3 (fun _ => D_p (pu_cmp_eq.trans hz) (fun _ => dE))))) ?_
  unfold RT
  exact Iff.rfl
theorem o115_l {n r h : Nat} {u3 : Int32} {x : mm_S} (hh : h + 64 ≤ n) (hn : n < 2 ^ 31) : ∀ (k i : Nat) (d : Int64), i ≤ 56 → 56 - i < k → okl_m_isRight_115 k n r (nI h) u3 d (nI i) x
  | 0, i, d, _, hk => by omega
  | k + 1, i, d, hi, hk => by
    have e56 : nI h + 56 = nI (h + 56) := nI_add h 56
    have e12 : nI h + 12 = nI (h + 12) := nI_add h 12
    have hr : ok_m_read n r (nI (h + 56)) 8 x := ok_rd (b := 8) (by omega) hn
    rw [okl_m_isRight_115]
    by_cases q : 56 ≤ i
    · rw [if_pos (show (56 : Int32) ≤ nI i from le_t (n := 56) q (by omega)), e56, e12, nm]
      refine ⟨nm_ok x, ?_⟩
      dsimp only
      cases hw : nw (x.2.2 10) with
      | none =>
        rw [if_pos (show ni none = -1 from rfl)]
        split
        · trivial
        · refine ⟨hr, ?_⟩
          split <;> trivial
      | some a =>
        have hb := nw_b hw
        have e7 : ni (some a) + 7 = nI (a + 7) := nI_add a 7
        have hne : ¬ ni (some a) = -1 := ni_m a (by omega)
        rw [if_neg hne, e7]
        refine ⟨nI_in (by omega) (by decide), nI_in (by omega) hn, ?_⟩
        split
        · split
          · trivial
          · refine ⟨hr, ?_⟩
            split <;> trivial
        · split
          · trivial
          · refine ⟨hr, ?_⟩
            split <;> trivial
    · rw [if_neg (show ¬ (56 : Int32) ≤ nI i from le_f (n := 56) (by omega) (by omega)), nI_1, nI_add]
      exact ⟨nI_in (by omega) hn, o115_l hh hn k (i + 1) _ (by omega) (by omega)⟩
theorem o68_l {n r h : Nat} {x : mm_S} (hh : h + 64 ≤ n) (hn : n < 2 ^ 31) : ∀ (k i : Nat) (u3 : Int32), i ≤ 56 → 56 - i < k → okl_m_isRight_68 k n r (nI h) u3 (nI i) x
  | 0, i, u3, _, hk => by omega
  | k + 1, i, u3, hi, hk => by
    rw [o68_s]
    by_cases q : 56 ≤ i
    · rw [if_pos (le_t (n := 56) q (by omega)), show nI h + 12 = nI (h + 12) from nI_add h 12]
      exact ⟨nI_in (by omega) hn, o115_l hh hn (mm_fu 0 56) 0 _ (by decide) (by decide)⟩
    · rw [if_neg (le_f (n := 56) (by omega) (by omega)), nI_1, nI_add]
      split
      · exact o68_l hh hn k (i + 1) _ (by omega) (by omega)
      · refine ⟨nI_in (by omega) hn, ?_⟩
        split
        · exact o68_l hh hn k (i + 1) _ (by omega) (by omega)
        · exact o68_l hh hn k (i + 1) _ (by omega) (by omega)
theorem ir_ok {n r h : Nat} {y : mm_S} (hh : h + 64 ≤ n) (hn : n < 2 ^ 31) : ok_m_isRight n r (nI h) y := by
  unfold ok_m_isRight
  rw [show nI h + 8 = nI (h + 8) from nI_add h 8, show nI h + 12 = nI (h + 12) from nI_add h 12, show nI h + 13 = nI (h + 13) from nI_add h 13]
  refine ⟨ok_rd (b := 4) (by omega) hn, ?_⟩
  split
  · refine ⟨ok_rd (b := 4) (by omega) hn, ?_⟩
    split
    · trivial
    · refine ⟨nI_in (by omega) hn, ?_⟩
      split
      · trivial
      · refine ⟨ok_rd (b := 7) (by omega) hn, ?_⟩
        split
        · exact o68_l hh hn (mm_fu 28 56) 28 _ (by decide) (by decide)
        · trivial
  · trivial
theorem R_rv {x y : mm_S} (hA : RA x y) (hl : LG x) : rvY y = x.1 26 := by
  unfold rvY
  rw [R_nw hA]
  cases hw : nw (gF x) with
  | none => exact (hl.2.1 hw).2.2.2.2.1.symm
  | some a =>
    have hb := nw_b hw
    dsimp only
    rw [(hl.2.2 a hw).2.2.2.2.1, hA.1 (a + 7) (by omega)]
    rfl
/-- the header in the sheet and the one that the reference reads -/
theorem ir_q {x y : mm_S} {n r h : Nat} (hh : h + 64 ≤ n) (hn : n < 2 ^ 31) (hs : ∀ j, j < 64 → y.2.2 r (h + j) = g3 x j) (hk : y.2.1 10 = x.2.1 0) (hr : rvY y = x.1 26) : e_isRight x = e_m_isRight n r (nI h) y := by
  have c := ir_c x
  have m := ir_m (y := y) (r := r) hh hn (fun j h1 h2 => by
    have e : j = h + (j - h) := by omega
    rw [e, hs (j - h) (by omega)]
    exact g3_b x 0 64 (j - h) (by omega) (by omega))
  rw [hk, hr] at m
  refine D_e c (D_i m ⟨fun q => RT_congr hs q, fun q => RT_congr (fun j hj => (hs j hj).symm) q⟩)
