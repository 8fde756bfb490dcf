/-! The beginning, side by side: header, first record, relation. -/
theorem l253_s (k : Nat) (u8 : Int32) (x : mm_S) : l_MOi_253 (k + 1) u8 x = if nI 16 ≤ u8 then x else l_MOi_253 k (u8 + 1) (mm_setA x 10 (upd (x.2.2 10) (Int32.toNatClampNeg u8) (x.2.2 15 (Int32.toNatClampNeg u8)))) := rfl
theorem o253_s (k : Nat) (u8 : Int32) (x : mm_S) : okl_MOi_253 (k + 1) u8 x = if nI 16 ≤ u8 then True else (vp_in u8 16 ∧ vp_in u8 4096 ∧ okl_MOi_253 k (u8 + 1) (mm_setA x 10 (upd (x.2.2 10) (Int32.toNatClampNeg u8) (x.2.2 15 (Int32.toNatClampNeg u8))))) := rfl
theorem l253_l (x : mm_S) : l_MOi_253 (mm_fu 0 16) 0 x = mm_setA x 10 (wr (x.2.2 10) 0 16 (x.2.2 15)) :=
  wr_loop0 (fun k t x => l_MOi_253 k (nI t) x) (fun x => x) 10 0 16 (fun x => x.2.2 15) (fun k x => by
    rw [l253_s, if_pos (le_t (Nat.le_refl 16) (by decide))]) (fun k t x h => by
    rw [l253_s, if_neg (le_f h (by decide)), nI_1, pu_clamp (by omega), Nat.zero_add]) (fun x i v t h1 h2 => by
    rw [gAn (by decide)]) (mm_fu 0 16) x (by decide)
theorem o253_l (x : mm_S) : okl_MOi_253 (mm_fu 0 16) 0 x :=
  ok_loop (fun k t x => okl_MOi_253 k (nI t) x) 16 (fun k x => by
    rw [o253_s, if_pos (le_t (Nat.le_refl 16) (by decide))]
    trivial) (fun k t x h ih => by
    rw [o253_s, if_neg (le_f h (by decide)), nI_1]
    exact ⟨nI_in h (by decide), nI_in (by omega) (by decide), ih _⟩) (mm_fu 0 16) 0 x (by decide) (by decide)
def nE (u1 : Int32) (x : mm_S) : mm_S := l_MOi_253 (mm_fu 0 16) 0 (e_m_lineIs 1 0 255 0 0 (Int32.toInt64 u1) x)
theorem l206_s (k : Nat) (u1 u8 : Int32) (x : mm_S) : l_MOi_206 (k + 1) u1 u8 x = if nI 64 ≤ u8 then nE u1 x else l_MOi_206 k u1 (u8 + 1) (mm_setA x 10 (upd (x.2.2 10) (Int32.toNatClampNeg ((128 : Int32) + u8)) (x.2.2 14 (Int32.toNatClampNeg u8)))) := by
  rw [l_MOi_206]
  rfl
theorem o206_s (k : Nat) (u1 u8 : Int32) (x : mm_S) : okl_MOi_206 (k + 1) u1 u8 x = if nI 64 ≤ u8 then (ok_m_lineIs 1 0 255 0 0 (Int32.toInt64 u1) x ∧ okl_MOi_253 (mm_fu 0 16) 0 (e_m_lineIs 1 0 255 0 0 (Int32.toInt64 u1) x)) else (vp_in u8 64 ∧ vp_in ((128 : Int32) + u8) 4096 ∧ okl_MOi_206 k u1 (u8 + 1) (mm_setA x 10 (upd (x.2.2 10) (Int32.toNatClampNeg ((128 : Int32) + u8)) (x.2.2 14 (Int32.toNatClampNeg u8))))) := by
  rw [okl_MOi_206]
  rfl
theorem l206_l (u1 : Int32) (x : mm_S) : l_MOi_206 (mm_fu 0 64) u1 0 x = nE u1 (mm_setA x 10 (wr (x.2.2 10) 128 64 (x.2.2 14))) :=
  wr_loop0 (fun k t x => l_MOi_206 k u1 (nI t) x) (nE u1) 10 128 64 (fun x => x.2.2 14) (fun k x => by
    rw [l206_s, if_pos (le_t (Nat.le_refl 64) (by decide))]) (fun k t x h => by
    rw [l206_s, if_neg (le_f h (by decide)), nI_1, pu_clamp (by omega), show (128 : Int32) + nI t = nI (128 + t) from nI_add 128 t, pu_clamp (by omega)]) (fun x i v t h1 h2 => by
    rw [gAn (by decide)]) (mm_fu 0 64) x (by decide)
theorem o206_l (u1 : Int32) (x : mm_S) : okl_MOi_206 (mm_fu 0 64) u1 0 x :=
  ok_loop (fun k t x => okl_MOi_206 k u1 (nI t) x) 64 (fun k x => by
    rw [o206_s, if_pos (le_t (Nat.le_refl 64) (by decide))]
    exact ⟨lo_m, o253_l _⟩) (fun k t x h ih => by
    rw [o206_s, if_neg (le_f h (by decide)), nI_1, show (128 : Int32) + nI t = nI (128 + t) from nI_add 128 t]
    exact ⟨nI_in h (by decide), nI_in (by omega) (by decide), ih _⟩) (mm_fu 0 64) 0 x (by decide) (by decide)
def bN (u2 : Int32) : Int32 := (1 : Int32) + (((u2 - u2 / (30 : Int32) * (30 : Int32)) + (30 : Int32)) - ((u2 - u2 / (30 : Int32) * (30 : Int32)) + (30 : Int32)) / (30 : Int32) * (30 : Int32))
def pE (u1 u2 : Int32) (x : mm_S) : mm_S := l_MOi_125 31 u1 (bN u2) ((Int32.toInt64 u1) &&& (4294967295 : Int64)) 0 x
theorem l76_s (k : Nat) (u1 u2 u5 : Int32) (x : mm_S) : l_MOi_76 (k + 1) u1 u2 u5 x = if nI 4096 ≤ u5 then pE u1 u2 x else l_MOi_76 k u1 u2 (u5 + 1) (mm_setA x 10 (upd (x.2.2 10) (Int32.toNatClampNeg u5) 255)) := by
  rw [l_MOi_76]
  rfl
theorem o76_s (k : Nat) (u1 u2 u5 : Int32) (x : mm_S) : okl_MOi_76 (k + 1) u1 u2 u5 x = if nI 4096 ≤ u5 then okl_MOi_125 31 u1 (bN u2) ((Int32.toInt64 u1) &&& (4294967295 : Int64)) 0 x else (vp_in u5 4096 ∧ okl_MOi_76 k u1 u2 (u5 + 1) (mm_setA x 10 (upd (x.2.2 10) (Int32.toNatClampNeg u5) 255))) := by
  rw [okl_MOi_76]
  rfl
theorem l76_l (u1 u2 : Int32) (k : Nat) (hk : 4096 < k) (x : mm_S) : l_MOi_76 k u1 u2 0 x = pE u1 u2 (mm_setA x 10 (wr (x.2.2 10) 0 4096 (fun _ => 255))) :=
  wr_loop0 (fun k t x => l_MOi_76 k u1 u2 (nI t) x) (pE u1 u2) 10 0 4096 (fun _ _ => 255) (fun k x => by
    rw [l76_s, if_pos (le_t (Nat.le_refl 4096) (by decide))]) (fun k t x h => by
    rw [l76_s, if_neg (le_f h (by decide)), nI_1, pu_clamp (by omega), Nat.zero_add]) (fun _ _ _ _ _ _ => rfl) k x hk
theorem o76_l (u1 u2 : Int32) (h : ∀ z, okl_MOi_125 31 u1 (bN u2) ((Int32.toInt64 u1) &&& (4294967295 : Int64)) 0 z) (k : Nat) (hk : 4096 < k) (x : mm_S) : okl_MOi_76 k u1 u2 0 x :=
  ok_loop (fun k t x => okl_MOi_76 k u1 u2 (nI t) x) 4096 (fun k x => by
    rw [o76_s, if_pos (le_t (Nat.le_refl 4096) (by decide))]
    exact h x) (fun k t x ht ih => by
    rw [o76_s, if_neg (le_f ht (by decide)), nI_1]
    exact ⟨nI_in ht (by decide), ih _⟩) k 0 x (by omega) (by omega)
/-! how many blocks -/
theorem xs (n : Int32) : 0 ≤ (n ^^^ 30) ↔ 0 ≤ n.toInt := by
  have h1 : (n ^^^ 30).toBitVec.msb = n.toBitVec.msb := by
    rw [Int32.toBitVec_xor, BitVec.msb_xor, show ((30 : Int32).toBitVec).msb = false by decide, Bool.xor_false]
  rw [BitVec.msb_eq_toInt, BitVec.msb_eq_toInt] at h1
  rw [le_r (k := 0) (by decide)]
  have h2 : (n ^^^ 30).toInt < 0 ↔ n.toInt < 0 := by
    have := decide_eq_decide.mp h1
    exact this
  omega
theorem rm_30 (n : Int32) : (n - n / 30 * 30).toInt = n.toInt - n.toInt.tdiv 30 * 30 ∧ (0 ≤ n.toInt → 0 ≤ n.toInt - n.toInt.tdiv 30 * 30 ∧ n.toInt - n.toInt.tdiv 30 * 30 < 30) ∧ (n.toInt < 0 → -30 < n.toInt - n.toInt.tdiv 30 * 30 ∧ n.toInt - n.toInt.tdiv 30 * 30 ≤ 0) := by
  have hl := mm_lo n
  have hh := mm_hi n
  have e : (n / 30).toInt = n.toInt.tdiv 30 := by
    rw [Jvm.Kit.i32_div (by rw [show (30 : Int32).toInt = 30 by decide]; omega)]
    rfl
  have hd : (0 ≤ n.toInt → n.toInt.tdiv 30 = n.toInt / 30) ∧ (n.toInt < 0 → n.toInt.tdiv 30 = -((-n.toInt) / 30)) := by
    refine ⟨fun h => Int.tdiv_eq_ediv_of_nonneg h, fun h => ?_⟩
    rw [show n.toInt = -(-n.toInt) by omega, Int.neg_tdiv, Int.tdiv_eq_ediv_of_nonneg (by omega)]
    simp
  generalize n.toInt.tdiv 30 = q at *
  have e2 : (n / 30 * 30).toInt = q * 30 := by
    rw [Jvm.Kit.i32_mul (by rw [e, show (30 : Int32).toInt = 30 by decide]; omega) (by rw [e, show (30 : Int32).toInt = 30 by decide]; omega), e]
    rfl
  refine ⟨?_, fun h => ?_, fun h => ?_⟩
  · rw [mm_subI (by rw [e2]; omega) (by rw [e2]; omega), e2]
  · have := hd.1 h
    omega
  · have := hd.2 h
    omega
theorem c60 : ∀ c, c < 60 → nI c - nI c / 30 * 30 = nI (c % 30) := by decide +kernel
theorem c30 : ∀ c, c < 30 → (1 : Int32) + nI c = nI (1 + c) := fun c _ => nI_add 1 c
theorem bl_n (n : Int32) (x : mm_S) : ∃ b, 1 ≤ b ∧ b ≤ 30 ∧ (1 : Int32) + e_fmod n 30 x = nI b ∧ bN n = nI b := by
  obtain ⟨r1, r2, r3⟩ := rm_30 n
  unfold e_fmod bN
  dsimp only
  generalize hr : n - n / 30 * 30 = r at *
  generalize n.toInt - n.toInt.tdiv 30 * 30 = ρ at *
  have hρ : -30 < ρ ∧ ρ < 30 := by
    by_cases h : 0 ≤ n.toInt
    · have := r2 h
      omega
    · have := r3 (by omega)
      omega
  have e30 : (r + 30).toInt = ρ + 30 := by
    rw [mm_addI (by rw [r1, show (30 : Int32).toInt = 30 by decide]; omega) (by rw [r1, show (30 : Int32).toInt = 30 by decide]; omega), r1]
    rfl
  by_cases h : 0 ≤ n.toInt
  · have hb := r2 h
    have e1 : r + 30 = nI (ρ + 30).toNat := by
      rw [ni_of (v := r + 30) (by omega), e30]
    have e2 : r = nI ρ.toNat := by
      rw [ni_of (v := r) (by omega), r1]
    refine ⟨1 + ρ.toNat, by omega, by omega, ?_, ?_⟩
    · rw [if_pos ((xs n).mpr h), e2]
      exact nI_add 1 _
    · rw [e1, c60 _ (by omega), show (ρ + 30).toNat % 30 = ρ.toNat by omega]
      exact nI_add 1 _
  · have hb := r3 (by omega)
    have e1 : r + 30 = nI (ρ + 30).toNat := by
      rw [ni_of (v := r + 30) (by omega), e30]
    rw [if_neg (fun q => h ((xs n).mp q))]
    by_cases h0 : r = 0
    · have hz : ρ = 0 := by
        rw [← r1, h0]
        rfl
      refine ⟨1, by omega, by omega, ?_, ?_⟩
      · rw [if_pos h0, h0]
        rfl
      · rw [e1, c60 _ (by omega), hz]
        rfl
    · have hz : ¬ ρ = 0 := fun q => h0 (Int32.toInt_inj.mp (by rw [r1, q]; rfl))
      refine ⟨1 + (ρ + 30).toNat, by omega, by omega, ?_, ?_⟩
      · rw [if_neg h0, e1]
        exact nI_add 1 _
      · rw [e1, c60 _ (by omega), show (ρ + 30).toNat % 30 = (ρ + 30).toNat by omega]
        exact nI_add 1 _
