/-! The bytes of an erase. -/
theorem ml (s i : Nat) : nI s * 64 + nI i = nI (64 * s + i) := by
  rw [show (64 : Int32) = nI 64 from rfl, show nI s * nI 64 = nI (s * 64) from (Int32.ofNat_mul s 64).symm, nI_add, Nat.mul_comm]
theorem ml2 (s i : Nat) : 64 * nI s + nI i = nI (64 * s + i) := by
  rw [Int32.mul_comm, ml]
theorem er_s (k : Nat) (u1 u2 u3 : Int32) (x : mm_S) : l_erase_19 (k + 1) u1 u2 u3 x = if u2 ≤ u3 then (if x.1 12 = 0 then (1, x) else (0, x)) else l_erase_19 k u1 u2 (u3 + 1) (e_putByte 4096 1 ((u1 * 64) + u3) 255 x) := rfl
theorem em_s (k : Nat) (u1 u2 u3 : Int32) (x : mm_S) : l_m_erased_19 (k + 1) u1 u2 u3 x = if u2 ≤ u3 then (if x.1 100 = 0 then (1, x) else (0, x)) else l_m_erased_19 k u1 u2 (u3 + 1) (mm_setA x 10 (upd (x.2.2 10) (Int32.toNatClampNeg ((64 * u1) + u3)) 255)) := rfl
theorem eo_s (k : Nat) (u1 u2 u3 : Int32) (x : mm_S) : okl_m_erased_19 (k + 1) u1 u2 u3 x = if u2 ≤ u3 then (if x.1 100 = 0 then True else True) else (vp_in ((64 * u1) + u3) 4096 ∧ okl_m_erased_19 k u1 u2 (u3 + 1) (mm_setA x 10 (upd (x.2.2 10) (Int32.toNatClampNeg ((64 * u1) + u3)) 255))) := rfl
theorem le_f {i n : Nat} (h : i < n) (hn : n < 2 ^ 31) : ¬ nI n ≤ nI i := fun q => by
  have := (nI_leI (by omega) (by omega)).mp q
  omega
theorem le_t {i n : Nat} (h : n ≤ i) (hi : i < 2 ^ 31) : nI n ≤ nI i := nI_le h hi
theorem i_b {b : Int32} {x : mm_S} : (if b = 0 then ((1 : Int32), x) else (0, x)) = (if b = 0 then 1 else 0, x) := by
  split <;> rfl
theorem fu_k {m : Nat} (hm : m < 2 ^ 31) : m < mm_fu 0 (nI m) := by
  have e : mm_fu (nI 0) (nI m) = m - 0 + 1 := pu_fu (by omega) hm
  have e2 : mm_fu 0 (nI m) = m - 0 + 1 := e
  omega
theorem er_l {s m : Nat} (hs : s < 64) (hm : m ≤ 64) (x : mm_S) : l_erase_19 (mm_fu 0 (nI m)) (nI s) (nI m) 0 x = (if x.1 12 = 0 then 1 else 0, mm_setA x 1 (wr (x.2.2 1) (64 * s) m (fun _ => bt 255))) :=
  wr_loop0 (fun k i x => l_erase_19 k (nI s) (nI m) (nI i) x) (fun x => ((if x.1 12 = 0 then 1 else 0 : Int32), x)) 1 (64 * s) m (fun _ _ => bt 255) (fun k x => by
    rw [er_s, if_pos (le_t (Nat.le_refl m) (by omega)), i_b]) (fun k i x h => by
    rw [er_s, if_neg (le_f h (by omega)), nI_1, ml, pb (by omega) (by decide)]) (fun _ _ _ _ _ _ => rfl) (mm_fu 0 (nI m)) x (fu_k (by omega))
theorem em_l {s m : Nat} (hs : s < 64) (hm : m ≤ 64) (x : mm_S) : l_m_erased_19 (mm_fu 0 (nI m)) (nI s) (nI m) 0 x = (if x.1 100 = 0 then 1 else 0, mm_setA x 10 (wr (x.2.2 10) (64 * s) m (fun _ => 255))) :=
  wr_loop0 (fun k i x => l_m_erased_19 k (nI s) (nI m) (nI i) x) (fun x => ((if x.1 100 = 0 then 1 else 0 : Int32), x)) 10 (64 * s) m (fun _ _ => 255) (fun k x => by
    rw [em_s, if_pos (le_t (Nat.le_refl m) (by omega)), i_b]) (fun k i x h => by
    rw [em_s, if_neg (le_f h (by omega)), nI_1, ml2, pu_clamp (by omega)]) (fun _ _ _ _ _ _ => rfl) (mm_fu 0 (nI m)) x (fu_k (by omega))
theorem eo_l {s m : Nat} (hs : s < 64) (hm : m ≤ 64) (x : mm_S) : okl_m_erased_19 (mm_fu 0 (nI m)) (nI s) (nI m) 0 x :=
  ok_loop (fun k i x => okl_m_erased_19 k (nI s) (nI m) (nI i) x) m (fun k x => by
    rw [eo_s, if_pos (le_t (Nat.le_refl m) (by omega))]
    split <;> trivial) (fun k i x h ih => by
    rw [eo_s, if_neg (le_f h (by omega)), nI_1, ml2]
    exact ⟨nI_in (by omega) (by decide), ih _⟩) (mm_fu 0 (nI m)) 0 x (by omega) (fu_k (by omega))
