/-! Registers read behind a write; bytes; arrays written in a row. -/
theorem gI (x : mm_S) (r : Nat) (v : Int32) (s : Nat) : (mm_setI x r v).1 s = if s = r then v else x.1 s := rfl
theorem gA (x : mm_S) (r : Nat) (f : Nat → Int32) (s : Nat) : (mm_setA x r f).2.2 s = if s = r then f else x.2.2 s := rfl
theorem gAs (x : mm_S) (r : Nat) (f : Nat → Int32) : (mm_setA x r f).2.2 r = f := if_pos rfl
theorem gAn {x : mm_S} {r : Nat} {f : Nat → Int32} {s : Nat} (h : ¬ s = r) : (mm_setA x r f).2.2 s = x.2.2 s := if_neg h
theorem gIid (x : mm_S) (r : Nat) : mm_setI x r (x.1 r) = x := by
  have e : upd x.1 r (x.1 r) = x.1 := by
    funext j
    unfold upd
    split
    · next h => rw [h]
    · rfl
  unfold mm_setI
  rw [e]
theorem gAA (x : mm_S) (r : Nat) (f g : Nat → Int32) : mm_setA (mm_setA x r f) r g = mm_setA x r g := by
  have e : va_up (va_up x.2.2 r f) r g = va_up x.2.2 r g := by
    funext j
    unfold va_up
    split <;> rfl
  show (x.1, x.2.1, va_up (va_up x.2.2 r f) r g) = (x.1, x.2.1, va_up x.2.2 r g)
  rw [e]
def bt (v : Int32) : Int32 := vp_nar .byte (Int8.toInt32 (Int32.toInt8 v))
theorem bt_e (v : Int32) : bt v = Int8.toInt32 (Int32.toInt8 (Int8.toInt32 (Int32.toInt8 v))) := rfl
theorem bt_255 (v : Int32) : bt v &&& 255 = v &&& 255 := by
  apply Int32.toInt_inj.mp
  rw [pu_255, pu_255, bt_e, Int8.toInt_toInt32, Int32.toInt_toInt8, Int8.toInt_toInt32, Int32.toInt_toInt8, Int.bmod_def, Int.bmod_def]
  split <;> split <;> omega
theorem pu_and (v : Int32) : (v &&& 255) &&& 255 = v &&& 255 := by
  rw [Int32.and_assoc]
  rfl
theorem pb {n r p : Nat} {v : Int32} {x : mm_S} (hp : p < n) (hn : n < 2 ^ 31) : e_putByte n r (nI p) v x = mm_setA x r (upd (x.2.2 r) p (bt v)) := by
  have h1 : ¬ nI p < 0 := nI_pos (by omega)
  have h2 : ¬ Int32.ofNat n ≤ nI p := fun q => by
    have := (nI_leI (by omega) (by omega)).mp (show nI n ≤ nI p from q)
    omega
  refine mm_ifn h1 (mm_ifn h2 ?_)
  show mm_setA x r (upd (x.2.2 r) (Int32.toNatClampNeg (nI p)) (bt v)) = _
  rw [pu_clamp (by omega)]
theorem ba {n r p : Nat} {x : mm_S} (hp : p < n) (hn : n < 2 ^ 31) : e_byteAt n r (nI p) x = x.2.2 r p &&& 255 := by
  have h1 : ¬ nI p < 0 := nI_pos (by omega)
  have h2 : ¬ Int32.ofNat n ≤ nI p := fun q => by
    have := (nI_leI (by omega) (by omega)).mp (show nI n ≤ nI p from q)
    omega
  refine mm_ifn h1 (mm_ifn h2 ?_)
  rw [pu_clamp (by omega)]
/-- an array's places a .. a + n - 1 written -/
def wr (f : Nat → Int32) (a n : Nat) (v : Nat → Int32) : Nat → Int32 := fun j => if a ≤ j ∧ j < a + n then v (j - a) else f j
theorem wr_in {f : Nat → Int32} {a n : Nat} {v : Nat → Int32} {j : Nat} (h1 : a ≤ j) (h2 : j < a + n) : wr f a n v j = v (j - a) := if_pos ⟨h1, h2⟩
theorem wr_out {f : Nat → Int32} {a n : Nat} {v : Nat → Int32} {j : Nat} (h : j < a ∨ a + n ≤ j) : wr f a n v j = f j := if_neg (by omega)
theorem wr_0 (f : Nat → Int32) (a : Nat) (v : Nat → Int32) : wr f a 0 v = f := funext fun j => if_neg (by omega)
theorem upd_s (f : Nat → Int32) (a : Nat) (v : Int32) : upd f a v a = v := if_pos rfl
theorem upd_n {f : Nat → Int32} {a j : Nat} {v : Int32} (h : ¬ j = a) : upd f a v j = f j := if_neg h
theorem wr_loop {α : Type} (L : Nat → Nat → mm_S → α) (E : mm_S → α) (r a n : Nat) (V : mm_S → Nat → Int32)
    (h0 : ∀ k x, L (k + 1) n x = E x)
    (h1 : ∀ k i x, i < n → L (k + 1) i x = L k (i + 1) (mm_setA x r (upd (x.2.2 r) (a + i) (V x i))))
    (hV : ∀ x i v t, i < t → t < n → V (mm_setA x r (upd (x.2.2 r) (a + i) v)) t = V x t) :
    ∀ (k i : Nat) (x : mm_S), i ≤ n → n - i < k → L k i x = E (mm_setA x r (wr (x.2.2 r) (a + i) (n - i) (fun t => V x (i + t))))
  | 0, i, x, _, hk => by omega
  | k + 1, i, x, hi, hk => by
    by_cases h : n ≤ i
    · have e : n - i = 0 := by omega
      have e2 : mm_setA x r (x.2.2 r) = x := by
        have e3 : va_up x.2.2 r (x.2.2 r) = x.2.2 := by
          funext j
          unfold va_up
          split
          · next h => rw [h]
          · rfl
        unfold mm_setA
        rw [e3]
      have e4 : i = n := by omega
      subst e4
      rw [h0 k x, e, wr_0, e2]
    · rw [h1 k i x (by omega), wr_loop L E r a n V h0 h1 hV k (i + 1) _ (by omega) (by omega), gAA, gAs]
      congr 2
      funext j
      unfold wr
      by_cases hj : j = a + i
      · subst hj
        rw [if_neg (by omega), if_pos (by omega), upd_s, show a + i - (a + i) = 0 by omega]
        rfl
      · rw [upd_n hj]
        by_cases h2 : a + (i + 1) ≤ j ∧ j < a + (i + 1) + (n - (i + 1))
        · rw [if_pos h2, if_pos (by omega)]
          dsimp only
          rw [hV _ _ _ _ (by omega) (by omega)]
          congr 1
          omega
        · rw [if_neg h2, if_neg (by omega)]
theorem wr_loop0 {α : Type} (L : Nat → Nat → mm_S → α) (E : mm_S → α) (r a n : Nat) (V : mm_S → Nat → Int32)
    (h0 : ∀ k x, L (k + 1) n x = E x)
    (h1 : ∀ k i x, i < n → L (k + 1) i x = L k (i + 1) (mm_setA x r (upd (x.2.2 r) (a + i) (V x i))))
    (hV : ∀ x i v t, i < t → t < n → V (mm_setA x r (upd (x.2.2 r) (a + i) v)) t = V x t)
    (k : Nat) (x : mm_S) (hk : n < k) : L k 0 x = E (mm_setA x r (wr (x.2.2 r) a n (V x))) := by
  have h := wr_loop L E r a n V h0 h1 hV k 0 x (by omega) (by omega)
  simp only [Nat.add_zero, Nat.sub_zero, Nat.zero_add] at h
  exact h
/-- places in range, by the same steps -/
theorem ok_loop (L : Nat → Nat → mm_S → Prop) (n : Nat)
    (h0 : ∀ k x, L (k + 1) n x)
    (h1 : ∀ k i x, i < n → (∀ z, L k (i + 1) z) → L (k + 1) i x) :
    ∀ (k i : Nat) (x : mm_S), i ≤ n → n - i < k → L k i x
  | 0, i, x, _, hk => by omega
  | k + 1, i, x, hi, hk => by
    by_cases h : n ≤ i
    · have e4 : i = n := by omega
      subst e4
      exact h0 k x
    · exact h1 k i x (by omega) (fun z => ok_loop L n h0 h1 k (i + 1) z (by omega) (by omega))
/-! The relation of the class's registers (x) and the reference's (y). -/
def RA (x y : mm_S) : Prop := (∀ j, j < 4096 → y.2.2 10 j = x.2.2 1 j &&& 255) ∧ (∀ j, j < 64 → y.2.2 11 j = x.2.2 0 j &&& 255) ∧ (∀ j, j < 64 → y.2.2 12 j = x.2.2 4 j &&& 255)
def RC (x y : mm_S) : Prop := y.2.2 13 0 = x.1 13 ∧ y.2.2 13 1 = x.1 14 ∧ y.2.2 13 2 = x.1 20 ∧ y.2.2 13 3 = x.1 5 ∧ y.2.2 13 4 = x.1 6 ∧ y.2.2 13 5 = x.1 7 ∧ y.2.2 13 6 = x.1 8
def RM (x y : mm_S) : Prop := y.1 108 = x.1 30 ∧ y.1 109 = x.1 31 ∧ y.1 110 = x.1 32 ∧ y.1 111 = x.1 33 ∧ y.2.1 10 = x.2.1 0 ∧ (0 ≤ (x.1 31).toInt ∧ (x.1 31).toInt ≤ 30) ∧ (0 ≤ (x.1 32).toInt ∧ (x.1 32).toInt ≤ 3)
def RP (x y : mm_S) : Prop := y.1 100 = x.1 12 ∧ (x.1 12 = 0 ∨ x.1 12 = 1) ∧ y.1 101 = x.1 10 ∧ -1 ≤ (x.1 10).toInt ∧ y.1 102 = x.1 11 ∧ 0 ≤ (x.1 11).toInt ∧ (x.1 11).toInt < 64 ∧ (x.1 12 = 1 → x.1 10 = -1)
def SZ (y : mm_S) : Int := (rdn (y.2.2 12) 8 4 0).toInt
/-- what is awaited -/
def RO (x y : mm_S) : Prop := (x.1 1 = -1 ∧ x.1 2 = 0) ∨ ((x.1 1 = 0 ∨ x.1 1 = 1) ∧ 0 ≤ (y.1 107).toInt ∧ (y.1 107).toInt ≤ SZ y ∧ 1 ≤ SZ y ∧ SZ y ≤ 30 ∧ (x.1 2).toInt = SZ y - (y.1 107).toInt)
def RV (x y : mm_S) : Prop := y.1 103 = x.1 3 ∧ y.1 104 = x.1 4 ∧ y.1 105 = x.1 0 ∧ y.1 106 = x.1 1 ∧ (x.1 3 = -1 ∨ x.1 3 = 0 ∨ x.1 3 = 1) ∧ (0 ≤ (x.1 4).toInt ∧ (x.1 4).toInt ≤ 20) ∧ (¬ x.1 4 = 0 → ¬ x.1 3 = -1) ∧ (x.1 0 = 0 ∨ x.1 0 = 64) ∧ RO x y
theorem RA_c {x y x' y' : mm_S} (h : RA x y) (e1 : x'.2.2 1 = x.2.2 1) (e2 : x'.2.2 0 = x.2.2 0) (e3 : x'.2.2 4 = x.2.2 4) (f1 : y'.2.2 10 = y.2.2 10) (f2 : y'.2.2 11 = y.2.2 11) (f3 : y'.2.2 12 = y.2.2 12) : RA x' y' := by
  unfold RA
  rw [e1, e2, e3, f1, f2, f3]
  exact h
theorem RC_c {x y x' y' : mm_S} (h : RC x y) (e : y'.2.2 13 = y.2.2 13) (e1 : x'.1 13 = x.1 13) (e2 : x'.1 14 = x.1 14) (e3 : x'.1 20 = x.1 20) (e4 : x'.1 5 = x.1 5) (e5 : x'.1 6 = x.1 6) (e6 : x'.1 7 = x.1 7) (e7 : x'.1 8 = x.1 8) : RC x' y' := by
  unfold RC
  rw [e, e1, e2, e3, e4, e5, e6, e7]
  exact h
theorem RM_c {x y x' y' : mm_S} (h : RM x y) (e1 : x'.1 30 = x.1 30) (e2 : x'.1 31 = x.1 31) (e3 : x'.1 32 = x.1 32) (e4 : x'.1 33 = x.1 33) (e5 : x'.2.1 0 = x.2.1 0) (f1 : y'.1 108 = y.1 108) (f2 : y'.1 109 = y.1 109) (f3 : y'.1 110 = y.1 110) (f4 : y'.1 111 = y.1 111) (f5 : y'.2.1 10 = y.2.1 10) : RM x' y' := by
  unfold RM
  rw [e1, e2, e3, e4, e5, f1, f2, f3, f4, f5]
  exact h
theorem RP_c {x y x' y' : mm_S} (h : RP x y) (e1 : x'.1 12 = x.1 12) (e2 : x'.1 10 = x.1 10) (e3 : x'.1 11 = x.1 11) (f1 : y'.1 100 = y.1 100) (f2 : y'.1 101 = y.1 101) (f3 : y'.1 102 = y.1 102) : RP x' y' := by
  unfold RP
  rw [e1, e2, e3, f1, f2, f3]
  exact h
theorem RO_c {x y x' y' : mm_S} (h : RO x y) (e1 : x'.1 1 = x.1 1) (e2 : x'.1 2 = x.1 2) (f1 : y'.1 107 = y.1 107) (f2 : y'.2.2 12 = y.2.2 12) : RO x' y' := by
  unfold RO SZ
  rw [e1, e2, f1, f2]
  exact h
theorem RV_c {x y x' y' : mm_S} (h : RV x y) (e0 : x'.1 0 = x.1 0) (e1 : x'.1 1 = x.1 1) (e2 : x'.1 2 = x.1 2) (e3 : x'.1 3 = x.1 3) (e4 : x'.1 4 = x.1 4) (f3 : y'.1 103 = y.1 103) (f4 : y'.1 104 = y.1 104) (f5 : y'.1 105 = y.1 105) (f6 : y'.1 106 = y.1 106) (f7 : y'.1 107 = y.1 107) (f8 : y'.2.2 12 = y.2.2 12) : RV x' y' := by
  obtain ⟨h1, h2, h3, h4, h5, h6, h7, h8, h9⟩ := h
  unfold RV
  rw [e0, e1, e3, e4, f3, f4, f5, f6]
  exact ⟨h1, h2, h3, h4, h5, h6, h7, h8, RO_c h9 e1 e2 f7 f8⟩
