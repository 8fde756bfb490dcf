/-! Pure: what a number of bytes is; the class's ints beside the reference's longs. -/
def byt (g : Nat → Int32) (a n : Nat) : Prop := ∀ j, a ≤ j → j < a + n → 0 ≤ (g j).toInt ∧ (g j).toInt < 256
theorem pu_255 (v : Int32) : (v &&& 255).toInt = v.toInt % 256 := Jvm.Kit.i32_mask v 255 (k := 8) (by decide) (by decide)
theorem byt_255 (f : Nat → Int32) (a n : Nat) : byt (fun j => f j &&& 255) a n := fun j _ _ => by
  show 0 ≤ (f j &&& 255).toInt ∧ (f j &&& 255).toInt < 256
  rw [pu_255]
  omega
def vl (g : Nat → Int32) : Nat → Nat → Int → Int
  | _, 0, V => V
  | a, n + 1, V => vl g (a + 1) n (V * 256 + (g a).toInt)
theorem pu_step {v : Int64} {b : Int32} (h0 : 0 ≤ v.toInt) (h1 : v.toInt * 256 + 256 ≤ 2 ^ 62) (hb : 0 ≤ b.toInt) (hb2 : b.toInt < 256) : ((v <<< (Int32.toInt64 (8 : Int32) &&& 63)) ||| (Int32.toInt64 b)).toInt = v.toInt * 256 + b.toInt := by
  have e1 : (v <<< (Int32.toInt64 (8 : Int32) &&& 63)).toInt = v.toInt * 2 ^ 8 := Jvm.Kit.i64_shl v _ (k := 8) (by decide) (by omega) (by omega)
  have e2 : (Int32.toInt64 b).toInt = b.toInt := Int32.toInt_toInt64 b
  rw [k2_or_add (k := 8) (z := v.toInt) (by decide) h0 e1 (by rw [e2]; exact hb) (by rw [e2]; omega) (by rw [e2]; omega), e1, e2]
  omega
theorem pu_pow : ∀ m, m < 7 → (256 : Int) ^ m * 256 + 256 ≤ 2 ^ 62 := by decide
theorem rdn_val {g : Nat → Int32} : ∀ (n m a : Nat) (v : Int64), m + n ≤ 7 → byt g a n → 0 ≤ v.toInt → v.toInt < 256 ^ m → (rdn g a n v).toInt = vl g a n v.toInt ∧ 0 ≤ vl g a n v.toInt ∧ vl g a n v.toInt < 256 ^ (m + n)
  | 0, m, a, v, _, _, h0, h1 => ⟨rfl, h0, h1⟩
  | n + 1, m, a, v, hm, hb, h0, h1 => by
    obtain ⟨b0, b1⟩ := hb a (Nat.le_refl a) (by omega)
    have hp := pu_pow m (by omega)
    have e := pu_step (b := g a) h0 (by omega) b0 b1
    have hlt : v.toInt * 256 + (g a).toInt < 256 ^ (m + 1) := by
      rw [Int.pow_succ]
      omega
    have ih := rdn_val (g := g) n (m + 1) (a + 1) ((v <<< (Int32.toInt64 (8 : Int32) &&& 63)) ||| (Int32.toInt64 (g a))) (by omega) (fun j h2 h3 => hb j (by omega) (by omega)) (by rw [e]; omega) (by rw [e]; exact hlt)
    rw [e, show m + 1 + n = m + (n + 1) by omega] at ih
    exact ih
theorem rd4 {g : Nat → Int32} {a : Nat} (hb : byt g a 4) : 0 ≤ (rdn g a 4 0).toInt ∧ (rdn g a 4 0).toInt < 2 ^ 32 := by
  obtain ⟨e, h1, h2⟩ := rdn_val (g := g) 4 0 a 0 (by decide) hb (by decide) (by decide)
  rw [e]
  exact ⟨h1, by simpa using h2⟩
theorem vl_zero {g : Nat → Int32} : ∀ (n a : Nat) (V : Int), byt g a n → 0 ≤ V → (vl g a n V = 0 ↔ V = 0 ∧ ∀ j, a ≤ j → j < a + n → g j = 0)
  | 0, a, V, _, _ => ⟨fun h => ⟨h, fun j h1 h2 => by omega⟩, fun h => h.1⟩
  | n + 1, a, V, hb, h0 => by
    obtain ⟨b0, b1⟩ := hb a (Nat.le_refl a) (by omega)
    have ih := vl_zero (g := g) n (a + 1) (V * 256 + (g a).toInt) (fun j h2 h3 => hb j (by omega) (by omega)) (by omega)
    show vl g (a + 1) n (V * 256 + (g a).toInt) = 0 ↔ _
    rw [ih]
    constructor
    · rintro ⟨h1, h2⟩
      have h3 : (g a).toInt = 0 := by omega
      refine ⟨by omega, fun j h4 h5 => ?_⟩
      by_cases hj : j = a
      · subst hj
        exact Int32.toInt_inj.mp (by rw [h3]; rfl)
      · exact h2 j (by omega) (by omega)
    · rintro ⟨h1, h2⟩
      have h3 := h2 a (Nat.le_refl a) (by omega)
      refine ⟨by rw [h1, h3]; rfl, fun j h4 h5 => h2 j (by omega) (by omega)⟩
theorem rd7_zero {g : Nat → Int32} {a : Nat} (hb : byt g a 7) : rdn g a 7 0 = 0 ↔ ∀ j, a ≤ j → j < a + 7 → g j = 0 := by
  obtain ⟨e, h1, h2⟩ := rdn_val (g := g) 7 0 a 0 (by decide) hb (by decide) (by decide)
  have hz := vl_zero (g := g) 7 a (0 : Int64).toInt hb (by decide)
  constructor
  · intro h
    rw [h] at e
    exact (hz.mp e.symm).2
  · intro h
    exact Int64.toInt_inj.mp (by rw [e, hz.mpr ⟨rfl, h⟩]; rfl)
/-- the lower half of a long in 0 .. 2^32 - 1 -/
theorem pu_32 {p : Int64} : p.toInt32.toInt = p.toInt.bmod (2 ^ 32) := Int64.toInt_toInt32 p
theorem pu_32eq {p : Int64} {c : Int32} (h0 : 0 ≤ p.toInt) (h1 : p.toInt < 2 ^ 32) (hc : 0 ≤ c.toInt) : p.toInt32 = c ↔ p.toInt = c.toInt := by
  rw [← Int32.toInt_inj, pu_32, Int.bmod_def]
  have := mm_hi c
  constructor <;> intro h
  · split at h <;> omega
  · split <;> omega
theorem pu_inj {p q : Int64} (h0 : 0 ≤ p.toInt) (h1 : p.toInt < 2 ^ 32) (h2 : 0 ≤ q.toInt) (h3 : q.toInt < 2 ^ 32) (h : p.toInt32 = q.toInt32) : p = q := by
  rw [← Int32.toInt_inj, pu_32, pu_32, Int.bmod_def, Int.bmod_def] at h
  apply Int64.toInt_inj.mp
  split at h <;> split at h <;> omega
theorem pu_min {p : Int64} (h0 : 0 ≤ p.toInt) (h1 : p.toInt < 2 ^ 32) : (p.toInt32 + (-2147483648 : Int32)).toInt = p.toInt - 2 ^ 31 := by
  rw [Int32.toInt_add, pu_32, Int.bmod_def, Int.bmod_def, show ((-2147483648 : Int32)).toInt = -2147483648 by decide]
  split <;> split <;> omega
theorem pu_cmp_le {p q : Int64} : lg_cmp p q ≤ 0 ↔ p.toInt ≤ q.toInt := by
  unfold lg_cmp
  simp only [gt_iff_lt, Int64.lt_iff_toInt_lt, ← Int64.toInt_inj]
  split
  · constructor
    · intro h; exact absurd h (by decide)
    · intro h; omega
  · split
    · exact ⟨fun _ => by omega, fun _ => by decide⟩
    · exact ⟨fun _ => by omega, fun _ => by decide⟩
theorem pu_cmp_eq {p q : Int64} : lg_cmp p q = 0 ↔ p = q := by
  unfold lg_cmp
  simp only [gt_iff_lt, Int64.lt_iff_toInt_lt]
  split
  · next h =>
    constructor
    · intro h2; exact absurd h2 (by decide)
    · intro h2; subst h2; omega
  · split
    · next h => exact ⟨fun _ => h, fun _ => rfl⟩
    · next h => exact ⟨fun h2 => absurd h2 (by decide), fun h2 => absurd h2 h⟩
theorem pu_cmp_ge {p q : Int64} : 0 ≤ lg_cmp p q ↔ q.toInt ≤ p.toInt := by
  unfold lg_cmp
  simp only [gt_iff_lt, Int64.lt_iff_toInt_lt, ← Int64.toInt_inj]
  split
  · exact ⟨fun _ => by omega, fun _ => by decide⟩
  · split
    · exact ⟨fun _ => by omega, fun _ => by decide⟩
    · constructor
      · intro h; exact absurd h (by decide)
      · intro h; omega
theorem pu_uc_le {p q : Int64} {x : mm_S} (h0 : 0 ≤ p.toInt) (h1 : p.toInt < 2 ^ 32) (h2 : 0 ≤ q.toInt) (h3 : q.toInt < 2 ^ 32) : e_ucompare p.toInt32 q.toInt32 x ≤ 0 ↔ p.toInt ≤ q.toInt := by
  have e1 := pu_min h0 h1
  have e2 := pu_min h2 h3
  show e_icompare (p.toInt32 + (-2147483648 : Int32)) (q.toInt32 + (-2147483648 : Int32)) x ≤ 0 ↔ _
  unfold e_icompare
  simp only [Int32.le_iff_toInt_le, ← Int32.toInt_inj, e1, e2]
  split
  · split
    · exact ⟨fun _ => by omega, fun _ => by decide⟩
    · constructor
      · intro h; exact absurd h (by decide)
      · intro h; omega
  · exact ⟨fun _ => by omega, fun _ => by decide⟩
theorem pu_uc_ge {p q : Int64} {x : mm_S} (h0 : 0 ≤ p.toInt) (h1 : p.toInt < 2 ^ 32) (h2 : 0 ≤ q.toInt) (h3 : q.toInt < 2 ^ 32) : 0 ≤ e_ucompare p.toInt32 q.toInt32 x ↔ q.toInt ≤ p.toInt := by
  have e1 := pu_min h0 h1
  have e2 := pu_min h2 h3
  show 0 ≤ e_icompare (p.toInt32 + (-2147483648 : Int32)) (q.toInt32 + (-2147483648 : Int32)) x ↔ _
  unfold e_icompare
  simp only [Int32.le_iff_toInt_le, ← Int32.toInt_inj, e1, e2]
  split
  · split
    · exact ⟨fun _ => by omega, fun _ => by decide⟩
    · exact ⟨fun _ => by omega, fun _ => by decide⟩
  · constructor
    · intro h; exact absurd h (by decide)
    · intro h; omega
theorem pu_in {p a b : Int64} {x : mm_S} : e_m_in p a b x = 0 ↔ ¬ (a.toInt ≤ p.toInt ∧ p.toInt ≤ b.toInt) := by
  unfold e_m_in
  split
  · next h =>
    have : ¬ a.toInt ≤ p.toInt := fun q => by
      have := pu_cmp_le.mpr q
      exact absurd h (by rw [Int32.not_lt]; exact this)
    exact ⟨fun _ q => this q.1, fun _ => rfl⟩
  · next h =>
    have h1 : a.toInt ≤ p.toInt := pu_cmp_le.mp (Int32.not_lt.mp h)
    split
    · next h2 =>
      have : ¬ p.toInt ≤ b.toInt := fun q => by
        have := pu_cmp_le.mpr q
        exact absurd h2 (by rw [Int32.not_lt]; exact this)
      exact ⟨fun _ q => this q.2, fun _ => rfl⟩
    · next h2 =>
      have h3 : p.toInt ≤ b.toInt := pu_cmp_le.mp (Int32.not_lt.mp h2)
      exact ⟨fun q => absurd q (by decide), fun q => absurd ⟨h1, h3⟩ q⟩
