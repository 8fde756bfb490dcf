/-! a blank line -/
def clb (g : Nat → Int32) (a : Nat) : Prop := ∀ j, a ≤ j → j < a + 16 → g j = 255
theorem ib_s (k : Nat) (u1 u2 : Int32) (x : mm_S) : l_isBlank_2 (k + 1) u1 u2 x = if nI 16 ≤ u2 then 1 else if e_byteAt 4096 1 (u1 + u2) x = 255 then l_isBlank_2 k u1 (u2 + 1) x else 0 := rfl
theorem ic_s (k : Nat) (u1 u2 : Int32) (x : mm_S) : l_m_isClean_2 (k + 1) u1 u2 x = if nI 16 ≤ u2 then 1 else if x.2.2 10 (Int32.toNatClampNeg (u1 + u2)) = 255 then l_m_isClean_2 k u1 (u2 + 1) x else 0 := rfl
theorem io_s (k : Nat) (u1 u2 : Int32) (x : mm_S) : okl_m_isClean_2 (k + 1) u1 u2 x = if nI 16 ≤ u2 then True else (vp_in (u1 + u2) 4096 ∧ if x.2.2 10 (Int32.toNatClampNeg (u1 + u2)) = 255 then okl_m_isClean_2 k u1 (u2 + 1) x else True) := rfl
theorem cl_st {g : Nat → Int32} {a i : Nat} (hi : i < 16) : (g (a + i) = 255 ∧ ∀ j, a + (i + 1) ≤ j → j < a + 16 → g j = 255) ↔ ∀ j, a + i ≤ j → j < a + 16 → g j = 255 := by
  refine ⟨fun q j h1 h2 => ?_, fun q => ⟨q _ (Nat.le_refl _) (by omega), fun j h1 h2 => q j (by omega) h2⟩⟩
  by_cases hj : j = a + i
  · rw [hj]
    exact q.1
  · exact q.2 j (by omega) h2
theorem ib_l {a : Nat} {x : mm_S} (ha : a + 16 ≤ 4096) : ∀ (k i : Nat), i ≤ 16 → 16 - i < k → D (∀ j, a + i ≤ j → j < a + 16 → gF x j = 255) (l_isBlank_2 k (nI a) (nI i) x)
  | 0, i, _, hk => by omega
  | k + 1, i, hi, hk => by
    by_cases h : 16 ≤ i
    · rw [ib_s, if_pos (le_t (n := 16) h (by omega))]
      exact ⟨fun _ => rfl, fun q => absurd (fun j h1 h2 => by omega) q⟩
    · have ih := ib_l (x := x) ha k (i + 1) (by omega) (by omega)
      rw [ib_s, if_neg (le_f (n := 16) (by omega) (by omega)), nI_add, bF (by omega), nI_1]
      exact D_i (D_p Iff.rfl (fun _ => ih)) (cl_st (by omega))
theorem ib {a : Nat} {x : mm_S} (ha : a + 16 ≤ 4096) : D (clb (gF x) a) (e_isBlank (nI a) x) := by
  unfold e_isBlank
  exact ib_l ha (mm_fu 0 16) 0 (by decide) (by decide)
theorem ic_l {a : Nat} {x : mm_S} (ha : a + 16 ≤ 4096) : ∀ (k i : Nat), i ≤ 16 → 16 - i < k → D (∀ j, a + i ≤ j → j < a + 16 → x.2.2 10 j = 255) (l_m_isClean_2 k (nI a) (nI i) x)
  | 0, i, _, hk => by omega
  | k + 1, i, hi, hk => by
    by_cases h : 16 ≤ i
    · rw [ic_s, if_pos (le_t (n := 16) h (by omega))]
      exact ⟨fun _ => rfl, fun q => absurd (fun j h1 h2 => by omega) q⟩
    · have ih := ic_l (x := x) ha k (i + 1) (by omega) (by omega)
      rw [ic_s, if_neg (le_f (n := 16) (by omega) (by omega)), nI_add, pu_clamp (by omega), nI_1]
      exact D_i (D_p Iff.rfl (fun _ => ih)) (cl_st (by omega))
theorem ic {a : Nat} {x : mm_S} (ha : a + 16 ≤ 4096) : D (clb (x.2.2 10) a) (e_m_isClean (nI a) x) := by
  unfold e_m_isClean
  exact ic_l ha (mm_fu 0 16) 0 (by decide) (by decide)
theorem io_l {a : Nat} {x : mm_S} (ha : a + 16 ≤ 4096) : ∀ (k i : Nat), i ≤ 16 → 16 - i < k → okl_m_isClean_2 k (nI a) (nI i) x
  | 0, i, _, hk => by omega
  | k + 1, i, hi, hk => by
    rw [io_s]
    by_cases h : 16 ≤ i
    · rw [if_pos (le_t (n := 16) h (by omega))]
      trivial
    · rw [if_neg (le_f (n := 16) (by omega) (by omega)), nI_add, nI_1]
      refine ⟨nI_in (by omega) (by decide), ?_⟩
      split
      · exact io_l ha k (i + 1) (by omega) (by omega)
      · trivial
theorem io {a : Nat} {x : mm_S} (ha : a + 16 ≤ 4096) : ok_m_isClean (nI a) x := by
  unfold ok_m_isClean
  exact io_l ha (mm_fu 0 16) 0 (by decide) (by decide)
