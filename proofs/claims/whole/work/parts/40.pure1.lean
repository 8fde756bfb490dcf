/-! Pure: bytes read as numbers, digests. g: what lies at a place, as a number of 0 .. 255. -/
theorem pu_lit (n : Nat) : Int32.ofNat n = nI n := rfl
theorem pu_clamp {n : Nat} (h : n < 2 ^ 31) : Int32.toNatClampNeg (nI n) = n := nI_clamp h
def rdn (g : Nat → Int32) : Nat → Nat → Int64 → Int64
  | _, 0, v => v
  | a, n + 1, v => rdn g (a + 1) n ((v <<< (Int32.toInt64 (8 : Int32) &&& 63)) ||| (Int32.toInt64 (g a)))
theorem rdn_congr {g h : Nat → Int32} : ∀ (n a : Nat) (v : Int64), (∀ j, a ≤ j → j < a + n → g j = h j) → rdn g a n v = rdn h a n v
  | 0, _, _, _ => rfl
  | n + 1, a, v, e => by
    show rdn g (a + 1) n _ = rdn h (a + 1) n _
    rw [e a (Nat.le_refl a) (by omega)]
    exact rdn_congr n (a + 1) _ (fun j h1 h2 => e j (by omega) (by omega))
theorem rd_read {n r : Nat} {x : mm_S} {a b : Nat} (hab : a + b < 2 ^ 31) : ∀ (k i : Nat) (v : Int64), i ≤ b → b - i < k → l_m_read_6 k n r (nI a) (nI b) v (nI i) x = rdn (x.2.2 r) (a + i) (b - i) v
  | 0, i, v, _, hk => by omega
  | k + 1, i, v, hi, hk => by
    by_cases h : b ≤ i
    · have e : b - i = 0 := by omega
      rw [e]
      exact mm_ifp ((nI_leI (by omega) (by omega)).mpr h) rfl
    · obtain ⟨d, hd⟩ : ∃ d, b - i = d + 1 := ⟨b - i - 1, by omega⟩
      have e1 : nI a + nI i = nI (a + i) := nI_add a i
      have e2 : nI i + 1 = nI (i + 1) := nI_1 i
      have ih := rd_read (n := n) (r := r) (x := x) hab k (i + 1) ((v <<< (Int32.toInt64 (8 : Int32) &&& 63)) ||| (Int32.toInt64 (x.2.2 r (a + i)))) (by omega) (by omega)
      rw [hd]
      refine (mm_ifn (fun q => h ((nI_leI (by omega) (by omega)).mp q)) ?_ : l_m_read_6 (k + 1) n r (nI a) (nI b) v (nI i) x = _)
      show l_m_read_6 k n r (nI a) (nI b) ((v <<< (Int32.toInt64 (8 : Int32) &&& 63)) ||| (Int32.toInt64 (x.2.2 r (Int32.toNatClampNeg (nI a + nI i))))) (nI i + 1) x = _
      rw [e1, e2, pu_clamp (by omega), ih]
      have e3 : b - (i + 1) = d := by omega
      rw [e3]
      rfl
theorem rd_numb {n r : Nat} {x : mm_S} {a b : Nat} (hab : a + b < 2 ^ 31) : ∀ (k i : Nat) (v : Int64), i ≤ b → b - i < k → l_numberAt_19 k n r (nI a) (nI b) v (nI i) x = rdn (fun j => x.2.2 r j &&& 255) (a + i) (b - i) v
  | 0, i, v, _, hk => by omega
  | k + 1, i, v, hi, hk => by
    by_cases h : b ≤ i
    · have e : b - i = 0 := by omega
      rw [e]
      exact mm_ifp ((nI_leI (by omega) (by omega)).mpr h) rfl
    · obtain ⟨d, hd⟩ : ∃ d, b - i = d + 1 := ⟨b - i - 1, by omega⟩
      have e1 : nI a + nI i = nI (a + i) := nI_add a i
      have e2 : nI i + 1 = nI (i + 1) := nI_1 i
      have ih := rd_numb (n := n) (r := r) (x := x) hab k (i + 1) ((v <<< (Int32.toInt64 (8 : Int32) &&& 63)) ||| (Int32.toInt64 (x.2.2 r (a + i) &&& 255))) (by omega) (by omega)
      rw [hd]
      refine (mm_ifn (fun q => h ((nI_leI (by omega) (by omega)).mp q)) ?_ : l_numberAt_19 (k + 1) n r (nI a) (nI b) v (nI i) x = _)
      show l_numberAt_19 k n r (nI a) (nI b) ((v <<< (Int32.toInt64 (8 : Int32) &&& 63)) ||| (Int32.toInt64 ((x.2.2 r (Int32.toNatClampNeg (nI a + nI i))) &&& 255))) (nI i + 1) x = _
      rw [e1, e2, pu_clamp (by omega), ih]
      have e3 : b - (i + 1) = d := by omega
      rw [e3]
      rfl
theorem pu_fu {i n : Nat} (hi : i < 2 ^ 31) (hn : n < 2 ^ 31) : mm_fu (nI i) (nI n) = (n - i) + 1 := by
  unfold mm_fu mm_ms
  rw [nI_toInt hi, nI_toInt hn]
  omega
theorem re_read {n r a b : Nat} {x : mm_S} (hab : a + b < 2 ^ 31) : e_m_read n r (nI a) (nI b) x = rdn (x.2.2 r) a b 0 := by
  show l_m_read_6 (mm_fu (nI 0) (nI b)) n r (nI a) (nI b) 0 (nI 0) x = _
  rw [pu_fu (by omega) (by omega), rd_read hab _ _ _ (by omega) (by omega)]
  rfl
theorem re_numb {n r a b : Nat} {x : mm_S} (hab : a + b ≤ n) (hn : n < 2 ^ 31) : e_numberAt n r (nI a) (nI b) x = rdn (fun j => x.2.2 r j &&& 255) a b 0 := by
  have h1 : ¬ nI a < 0 := nI_pos (by omega)
  have e : Int32.ofNat n - nI b = nI (n - b) := by
    have e0 : nI (n - b) + nI b = nI n := by rw [nI_add]; congr 1; omega
    rw [pu_lit, ← e0, Int32.add_sub_cancel]
  have h2 : nI a ≤ Int32.ofNat n - nI b := by
    rw [e]
    exact nI_le (by omega) (by omega)
  refine mm_ifn h1 (mm_ifp h2 ?_)
  show l_numberAt_19 (mm_fu (nI 0) (nI b)) n r (nI a) (nI b) 0 (nI 0) x = _
  rw [pu_fu (by omega) (by omega), rd_numb (by omega) _ _ _ (by omega) (by omega)]
  rfl
/-- in range: what the reference may read -/
theorem ok_read {n r : Nat} {x : mm_S} {a b : Nat} (hab : a + b ≤ n) (hn : n < 2 ^ 31) : ∀ (k i : Nat) (v : Int64), i ≤ b → b - i < k → okl_m_read_6 k n r (nI a) (nI b) v (nI i) x
  | 0, i, v, _, hk => by omega
  | k + 1, i, v, hi, hk => by
    by_cases h : b ≤ i
    · show (if nI b ≤ nI i then True else _)
      rw [if_pos ((nI_leI (by omega) (by omega)).mpr h)]
      trivial
    · have e1 : nI a + nI i = nI (a + i) := nI_add a i
      have e2 : nI i + 1 = nI (i + 1) := nI_1 i
      show (if nI b ≤ nI i then True else (vp_in (nI a + nI i) n ∧ okl_m_read_6 k n r (nI a) (nI b) _ (nI i + 1) x))
      rw [if_neg (fun q => h ((nI_leI (by omega) (by omega)).mp q)), e1, e2]
      exact ⟨nI_in (by omega) hn, ok_read hab hn k (i + 1) _ (by omega) (by omega)⟩
theorem ok_rd {n r a b : Nat} {x : mm_S} (hab : a + b ≤ n) (hn : n < 2 ^ 31) : ok_m_read n r (nI a) (nI b) x := by
  show okl_m_read_6 (mm_fu (nI 0) (nI b)) n r (nI a) (nI b) 0 (nI 0) x
  rw [pu_fu (by omega) (by omega)]
  exact ok_read hab hn _ _ _ (by omega) (by omega)
