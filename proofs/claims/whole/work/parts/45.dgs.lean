/-! A digest over places, for any step: the step is a variable, so that nothing is evaluated. -/
def dgs (st : Int64 → Int32 → Int64) (g : Nat → Int32) : Nat → Nat → Int64 → Int64
  | _, 0, d => d
  | a, n + 1, d => dgs st g (a + 1) n (st d (g a))
theorem dgs_s (st : Int64 → Int32 → Int64) (g : Nat → Int32) (a n : Nat) (d : Int64) : dgs st g a (n + 1) d = dgs st g (a + 1) n (st d (g a)) := rfl
theorem dgs_congr {st : Int64 → Int32 → Int64} {g h : Nat → Int32} : ∀ (n a : Nat) (d : Int64), (∀ j, a ≤ j → j < a + n → g j = h j) → dgs st g a n d = dgs st h a n d
  | 0, _, _, _ => rfl
  | n + 1, a, d, e => by
    rw [dgs_s, dgs_s, e a (Nat.le_refl a) (by omega)]
    exact dgs_congr n (a + 1) _ (fun j h1 h2 => e j (by omega) (by omega))
theorem dgs_add {st : Int64 → Int32 → Int64} (g : Nat → Int32) : ∀ (m a n : Nat) (d : Int64), dgs st g a (m + n) d = dgs st g (a + m) n (dgs st g a m d)
  | 0, a, n, d => by
    rw [Nat.zero_add, Nat.add_zero]
    rfl
  | m + 1, a, n, d => by
    rw [show m + 1 + n = (m + n) + 1 by omega, dgs_s, dgs_s, dgs_add g m (a + 1) n, show a + 1 + m = a + (m + 1) by omega]
theorem dg_c (d : Int64) (b : Int32) (x : mm_S) : e_rotl (d ^^^ (Int32.toInt64 b)) 13 x * (-7046029254386353131 : Int64) = dg d b := congrArg (fun z => (((d ^^^ (Int32.toInt64 b)) <<< (Int32.toInt64 (13 : Int32) &&& 63)) ||| ((Int64.toUInt64 (d ^^^ (Int32.toInt64 b)) >>> z).toInt64)) * (-7046029254386353131 : Int64)) dg_13
