/-! A record's line, and where it goes. -/
theorem fl_s (k n r : Nat) (u1 u2 u3 : Int32) (x : mm_S) : l_fill_5 (k + 1) n r u1 u2 u3 x = if u3 ≤ u2 then x else l_fill_5 k n r u1 (u2 + 1) u3 (mm_setA x r (upd (x.2.2 r) (Int32.toNatClampNeg u2) (vp_nar .byte u1))) := rfl
theorem fl_l {n r : Nat} (hn : n < 2 ^ 31) (v : Int32) (x : mm_S) : e_fill n r v x = mm_setA x r (wr (x.2.2 r) 0 n (fun _ => vp_nar .byte v)) := by
  unfold e_fill
  dsimp only
  exact wr_loop0 (fun k i x => l_fill_5 k n r v (nI i) (nI n) x) (fun x => x) r 0 n (fun _ _ => vp_nar .byte v) (fun k x => by
    rw [fl_s, if_pos (le_t (Nat.le_refl n) hn)]) (fun k i x h => by
    rw [fl_s, if_neg (le_f h hn), nI_1, pu_clamp (by omega), Nat.zero_add]) (fun _ _ _ _ _ _ => rfl) (mm_fu 0 (nI n)) x (fu_k hn)
/-- byte t of n bytes of a number -/
def nbt (v : Int64) (n t : Nat) : Int32 := Int64.toInt32 (v >>> (Int32.toInt64 ((8 : Int32) * ((nI n - (1 : Int32)) - nI t)) &&& 63))
theorem pn_s (k n r : Nat) (u1 u2 : Int32) (u3 : Int64) (u5 : Int32) (x : mm_S) : l_putNumber_3 (k + 1) n r u1 u2 u3 u5 x = if u2 ≤ u5 then x else l_putNumber_3 k n r u1 u2 u3 (u5 + 1) (e_putByte n r (u1 + u5) (Int64.toInt32 (u3 >>> (Int32.toInt64 ((8 : Int32) * ((u2 - (1 : Int32)) - u5)) &&& 63))) x) := rfl
theorem pn_l {n r a m : Nat} (h : a + m ≤ n) (hn : n < 2 ^ 31) (v : Int64) (x : mm_S) : e_putNumber n r (nI a) (nI m) v x = mm_setA x r (wr (x.2.2 r) a m (fun t => bt (nbt v m t))) := by
  unfold e_putNumber
  exact wr_loop0 (fun k i x => l_putNumber_3 k n r (nI a) (nI m) v (nI i) x) (fun x => x) r a m (fun _ t => bt (nbt v m t)) (fun k x => by
    rw [pn_s, if_pos (le_t (Nat.le_refl m) (by omega))]) (fun k i x h2 => by
    rw [pn_s, if_neg (le_f h2 (by omega)), nI_1, nI_add, pb (by omega) hn]
    rfl) (fun _ _ _ _ _ _ => rfl) (mm_fu 0 (nI m)) x (fu_k (by omega))
theorem mn_s (k n r : Nat) (u2 : Int32) (u3 : Int64) (u5 u6 : Int32) (x : mm_S) : l_m_number_3 (k + 1) n r u2 u3 u5 u6 x = if u5 ≤ u6 then x else l_m_number_3 k n r u2 u3 u5 (u6 + 1) (mm_setA x r (upd (x.2.2 r) (Int32.toNatClampNeg (u2 + u6)) ((Int64.toInt32 (u3 >>> (Int32.toInt64 ((8 : Int32) * ((u5 - (1 : Int32)) - u6)) &&& 63))) &&& (255 : Int32)))) := rfl
theorem mn_l {n r a m : Nat} (h : a + m ≤ n) (hn : n < 2 ^ 31) (v : Int64) (x : mm_S) : e_m_number n r (nI a) v (nI m) x = mm_setA x r (wr (x.2.2 r) a m (fun t => nbt v m t &&& 255)) := by
  unfold e_m_number
  exact wr_loop0 (fun k i x => l_m_number_3 k n r (nI a) v (nI m) (nI i) x) (fun x => x) r a m (fun _ t => nbt v m t &&& 255) (fun k x => by
    rw [mn_s, if_pos (le_t (Nat.le_refl m) (by omega))]) (fun k i x h2 => by
    rw [mn_s, if_neg (le_f h2 (by omega)), nI_1, nI_add, pu_clamp (by omega)]
    rfl) (fun _ _ _ _ _ _ => rfl) (mm_fu 0 (nI m)) x (fu_k (by omega))
theorem mo_s (k n r : Nat) (u2 : Int32) (u3 : Int64) (u5 u6 : Int32) (x : mm_S) : okl_m_number_3 (k + 1) n r u2 u3 u5 u6 x = if u5 ≤ u6 then True else (vp_in (u2 + u6) n ∧ okl_m_number_3 k n r u2 u3 u5 (u6 + 1) (mm_setA x r (upd (x.2.2 r) (Int32.toNatClampNeg (u2 + u6)) ((Int64.toInt32 (u3 >>> (Int32.toInt64 ((8 : Int32) * ((u5 - (1 : Int32)) - u6)) &&& 63))) &&& (255 : Int32))))) := rfl
theorem mo_l {n r a m : Nat} (h : a + m ≤ n) (hn : n < 2 ^ 31) (v : Int64) (x : mm_S) : ok_m_number n r (nI a) v (nI m) x := by
  unfold ok_m_number
  exact ok_loop (fun k i x => okl_m_number_3 k n r (nI a) v (nI m) (nI i) x) m (fun k x => by
    rw [mo_s, if_pos (le_t (Nat.le_refl m) (by omega))]
    trivial) (fun k i x h2 ih => by
    rw [mo_s, if_neg (le_f h2 (by omega)), nI_1, nI_add]
    exact ⟨nI_in (by omega) hn, ih _⟩) (mm_fu 0 (nI m)) 0 x (by omega) (fu_k (by omega))
/-- four bytes tell a number by its lower half -/
theorem nbt_sh : ∀ t, t < 4 → ((Int32.toInt64 ((8 : Int32) * ((nI 4 - (1 : Int32)) - nI t)) &&& 63).toBitVec.smod 64).toNat = 8 * (3 - t) := by decide +kernel
theorem nbt_v {v : Int64} {t : Nat} (ht : t < 4) : (nbt v 4 t &&& 255).toInt = (v.toInt / 2 ^ (8 * (3 - t))) % 256 := by
  unfold nbt
  rw [pu_255, pu_32, Jvm.Kit.i64_shr v _ (nbt_sh t ht)]
  generalize v.toInt / 2 ^ (8 * (3 - t)) = z
  rw [Int.bmod_def]
  split <;> omega
theorem nbt_q {u v : Int64} {t : Nat} (ht : t < 4) (h : u.toInt % 2 ^ 32 = v.toInt % 2 ^ 32) : nbt u 4 t &&& 255 = nbt v 4 t &&& 255 := by
  apply Int32.toInt_inj.mp
  rw [nbt_v ht, nbt_v ht]
  have : t = 0 ∨ t = 1 ∨ t = 2 ∨ t = 3 := by omega
  rcases this with h1 | h1 | h1 | h1 <;> subst h1
  · rw [show (2 : Int) ^ (8 * (3 - 0)) = 16777216 by decide]
    omega
  · rw [show (2 : Int) ^ (8 * (3 - 1)) = 65536 by decide]
    omega
  · rw [show (2 : Int) ^ (8 * (3 - 2)) = 256 by decide]
    omega
  · rw [show (2 : Int) ^ (8 * (3 - 3)) = 1 by decide]
    omega
theorem lo_q (p : Int64) : (Int32.toInt64 p.toInt32).toInt % 2 ^ 32 = p.toInt % 2 ^ 32 := by
  rw [Int32.toInt_toInt64, pu_32, Int.bmod_def]
  split <;> omega
theorem lo_1 (p : Int64) : (Int32.toInt64 (p.toInt32 + 1)).toInt % 2 ^ 32 = (p + 1).toInt % 2 ^ 32 := by
  rw [Int32.toInt_toInt64, Int32.toInt_add, pu_32, Int64.toInt_add, mm_1, show (1 : Int64).toInt = 1 by decide, Int.bmod_def, Int.bmod_def, Int.bmod_def]
  split <;> split <;> split <;> omega
/-- the class's line -/
def L2 (x : mm_S) (s : Int64) (a t r v c : Int32) : Nat → Int32 := wr (upd (wr (upd (upd (upd (upd (wr (x.2.2 2) 0 16 (fun _ => vp_nar .byte 0)) 4 (bt a)) 5 (bt t)) 6 (bt r)) 7 (bt v)) 8 4 (fun t => bt (nbt (Int32.toInt64 c) 4 t))) 15 (bt 90)) 0 4 (fun t => bt (nbt s 4 t))
theorem pb_4 (v : Int32) (x : mm_S) : e_putByte 16 2 4 v x = mm_setA x 2 (upd (x.2.2 2) 4 (bt v)) := pb (p := 4) (by decide) (by decide)
theorem pb_5 (v : Int32) (x : mm_S) : e_putByte 16 2 5 v x = mm_setA x 2 (upd (x.2.2 2) 5 (bt v)) := pb (p := 5) (by decide) (by decide)
theorem pb_6 (v : Int32) (x : mm_S) : e_putByte 16 2 6 v x = mm_setA x 2 (upd (x.2.2 2) 6 (bt v)) := pb (p := 6) (by decide) (by decide)
theorem pb_7 (v : Int32) (x : mm_S) : e_putByte 16 2 7 v x = mm_setA x 2 (upd (x.2.2 2) 7 (bt v)) := pb (p := 7) (by decide) (by decide)
theorem pb_15 (v : Int32) (x : mm_S) : e_putByte 16 2 15 v x = mm_setA x 2 (upd (x.2.2 2) 15 (bt v)) := pb (p := 15) (by decide) (by decide)
theorem pn_8 (v : Int64) (x : mm_S) : e_putNumber 16 2 8 4 v x = mm_setA x 2 (wr (x.2.2 2) 8 4 (fun t => bt (nbt v 4 t))) := pn_l (n := 16) (r := 2) (a := 8) (m := 4) (by decide) (by decide) v x
theorem pn_0 (v : Int64) (x : mm_S) : e_putNumber 16 2 0 4 v x = mm_setA x 2 (wr (x.2.2 2) 0 4 (fun t => bt (nbt v 4 t))) := pn_l (n := 16) (r := 2) (a := 0) (m := 4) (by decide) (by decide) v x
theorem ln_c {x : mm_S} {s : Int64} {a t r v c : Int32} : e_putNumber 16 2 0 4 s (e_lcompose a t r v c x) = mm_setA x 2 (L2 x s a (if t = -1 then 255 else t) r v c) := by
  unfold e_lcompose
  by_cases h : t = -1
  · rw [if_pos h, if_pos h]
    dsimp only
    rw [fl_l (by decide), pb_4, pb_5, pb_6, pb_7, pn_8, pb_15, pn_0]
    simp only [gAA, gAs, L2]
  · rw [if_neg h, if_neg h]
    dsimp only
    rw [fl_l (by decide), pb_4, pb_5, pb_6, pb_7, pn_8, pb_15, pn_0]
    simp only [gAA, gAs, L2]
/-- the reference's line -/
def L15 (y : mm_S) (s : Int64) (a t r v : Int32) (c : Int64) : Nat → Int32 := upd (upd (upd (upd (wr (upd (upd (upd (upd (wr (y.2.2 15) 0 4 (fun t => nbt s 4 t &&& 255)) 4 a) 5 t) 6 r) 7 v) 8 4 (fun t => nbt c 4 t &&& 255)) 12 0) 13 0) 14 0) 15 90
theorem cn_4 : Int32.toNatClampNeg 4 = 4 := by decide
theorem cn_5 : Int32.toNatClampNeg 5 = 5 := by decide
theorem cn_6 : Int32.toNatClampNeg 6 = 6 := by decide
theorem cn_7 : Int32.toNatClampNeg 7 = 7 := by decide
theorem cn_12 : Int32.toNatClampNeg 12 = 12 := by decide
theorem cn_13 : Int32.toNatClampNeg 13 = 13 := by decide
theorem cn_14 : Int32.toNatClampNeg 14 = 14 := by decide
theorem cn_15 : Int32.toNatClampNeg 15 = 15 := by decide
theorem mn_0 (v : Int64) (x : mm_S) : e_m_number 16 15 0 v 4 x = mm_setA x 15 (wr (x.2.2 15) 0 4 (fun t => nbt v 4 t &&& 255)) := mn_l (n := 16) (r := 15) (a := 0) (m := 4) (by decide) (by decide) v x
theorem mn_8 (v : Int64) (x : mm_S) : e_m_number 16 15 8 v 4 x = mm_setA x 15 (wr (x.2.2 15) 8 4 (fun t => nbt v 4 t &&& 255)) := mn_l (n := 16) (r := 15) (a := 8) (m := 4) (by decide) (by decide) v x
theorem ln_m {y : mm_S} {s c : Int64} {a t r v : Int32} : e_m_lineIs s a t r v c y = mm_setA y 15 (L15 y s a t r v c) := by
  unfold e_m_lineIs
  dsimp only
  rw [cn_4, cn_5, cn_6, cn_7, cn_12, cn_13, cn_14, cn_15, mn_0]
  simp only [gAA, gAs]
  rw [mn_8]
  simp only [gAA, gAs, L15]
theorem lo_m {y : mm_S} {s c : Int64} {a t r v : Int32} : ok_m_lineIs s a t r v c y := by
  unfold ok_m_lineIs
  dsimp only
  exact ⟨mo_l (n := 16) (a := 0) (m := 4) (by decide) (by decide) s y, vi 4 16 (by decide) (by decide), vi 5 16 (by decide) (by decide), vi 6 16 (by decide) (by decide), vi 7 16 (by decide) (by decide), mo_l (n := 16) (a := 8) (m := 4) (by decide) (by decide) c _, vi 12 16 (by decide) (by decide), vi 13 16 (by decide) (by decide), vi 14 16 (by decide) (by decide), vi 15 16 (by decide) (by decide), trivial⟩
theorem ln_q {x y : mm_S} {s S C : Int64} {a t r v c a' t' r' v' : Int32} (hs : s.toInt % 2 ^ 32 = S.toInt % 2 ^ 32) (hc : (Int32.toInt64 c).toInt % 2 ^ 32 = C.toInt % 2 ^ 32) (ha : a' = a &&& 255) (ht : t' = t &&& 255) (hr : r' = r &&& 255) (hv : v' = v &&& 255) : ∀ j, j < 16 → L15 y S a' t' r' v' C j = L2 x s a t r v c j &&& 255 := by
  intro j hj
  unfold L15 L2
  by_cases h1 : j < 4
  · rw [upd_n (by omega), upd_n (by omega), upd_n (by omega), upd_n (by omega), wr_out (by omega), upd_n (by omega), upd_n (by omega), upd_n (by omega), upd_n (by omega), wr_in (by omega) (by omega), wr_in (by omega) (by omega), bt_255]
    exact (nbt_q (by omega) hs).symm
  · rw [wr_out (a := 0) (n := 4) (v := fun t => bt (nbt s 4 t)) (by omega)]
    by_cases h2 : j < 8
    · have : j = 4 ∨ j = 5 ∨ j = 6 ∨ j = 7 := by omega
      rw [upd_n (by omega), upd_n (by omega), upd_n (by omega), upd_n (by omega), wr_out (by omega), upd_n (a := 15) (by omega), wr_out (by omega)]
      rcases this with h | h | h | h <;> subst h
      · rw [upd_n (by decide), upd_n (by decide), upd_n (by decide), upd_s, upd_n (by decide), upd_n (by decide), upd_n (by decide), upd_s, bt_255, ha]
      · rw [upd_n (by decide), upd_n (by decide), upd_s, upd_n (by decide), upd_n (by decide), upd_s, bt_255, ht]
      · rw [upd_n (by decide), upd_s, upd_n (by decide), upd_s, bt_255, hr]
      · rw [upd_s, upd_s, bt_255, hv]
    · by_cases h3 : j < 12
      · rw [upd_n (by omega), upd_n (by omega), upd_n (by omega), upd_n (by omega), wr_in (by omega) (by omega), upd_n (by omega), wr_in (by omega) (by omega), bt_255]
        exact (nbt_q (by omega) hc).symm
      · have : j = 12 ∨ j = 13 ∨ j = 14 ∨ j = 15 := by omega
        rcases this with h | h | h | h <;> subst h
        · rw [upd_n (by decide), upd_n (by decide), upd_n (by decide), upd_s, upd_n (by decide), wr_out (by decide), upd_n (by decide), upd_n (by decide), upd_n (by decide), upd_n (by decide), wr_in (by decide) (by decide)]
          decide
        · rw [upd_n (by decide), upd_n (by decide), upd_s, upd_n (by decide), wr_out (by decide), upd_n (by decide), upd_n (by decide), upd_n (by decide), upd_n (by decide), wr_in (by decide) (by decide)]
          decide
        · rw [upd_n (by decide), upd_s, upd_n (by decide), wr_out (by decide), upd_n (by decide), upd_n (by decide), upd_n (by decide), upd_n (by decide), wr_in (by decide) (by decide)]
          decide
        · rw [upd_s, upd_s, bt_255]
          decide
