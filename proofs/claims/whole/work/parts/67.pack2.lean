/-! The reference's pack: its loops. -/
theorem o3_s (k : Nat) (u1 u2 u3 : Int32) (u4 : Int64) (u6 : Int32) (x : mm_S) (h : okl_m_header_3 k u1 u2 u3 u4 (u6 + 1) (mm_setA x 14 (upd (x.2.2 14) (Int32.toNatClampNeg u6) 0))) (hu : ¬ nI 64 ≤ u6 → vp_in u6 64) : okl_m_header_3 (k + 1) u1 u2 u3 u4 u6 x := by
  rw [okl_m_header_3]
  by_cases c : (64 : Int32) ≤ u6
  · rw [if_pos c]
    exact ⟨vi 0 64 (by decide) (by decide), vi 1 64 (by decide) (by decide), vi 2 64 (by decide) (by decide), vi 3 64 (by decide) (by decide), mo_l (n := 64) (a := 4) (m := 4) (by decide) (by decide) _ _, mo_l (n := 64) (a := 8) (m := 4) (by decide) (by decide) _ _, vi 12 64 (by decide) (by decide), mo_l (n := 64) (a := 20) (m := 8) (by decide) (by decide) _ _, o113_l (mm_fu 0 56) 0 _ (by decide) (by decide)⟩
  · rw [if_neg c]
    exact ⟨hu c, h⟩
theorem o3_e (k : Nat) (u1 u2 u3 : Int32) (u4 : Int64) (x : mm_S) : okl_m_header_3 (k + 1) u1 u2 u3 u4 (nI 64) x := by
  rw [okl_m_header_3, if_pos (by decide)]
  exact ⟨vi 0 64 (by decide) (by decide), vi 1 64 (by decide) (by decide), vi 2 64 (by decide) (by decide), vi 3 64 (by decide) (by decide), mo_l (n := 64) (a := 4) (m := 4) (by decide) (by decide) _ _, mo_l (n := 64) (a := 8) (m := 4) (by decide) (by decide) _ _, vi 12 64 (by decide) (by decide), mo_l (n := 64) (a := 20) (m := 8) (by decide) (by decide) _ _, o113_l (mm_fu 0 56) 0 _ (by decide) (by decide)⟩
theorem ho {v0 v1 v2 : Int32} {v3 : Int64} {y : mm_S} : ok_m_header v0 v1 v2 v3 y := by
  unfold ok_m_header
  exact ok_loop (fun k i x => okl_m_header_3 k v0 v1 v2 v3 (nI i) x) 64 (fun k x => o3_e k v0 v1 v2 v3 x) (fun k i x h ih => o3_s k v0 v1 v2 v3 (nI i) x (by rw [nI_1]; exact ih _) (fun _ => nI_in h (by decide))) (mm_fu 0 64) 0 y (by decide) (by decide)
theorem p109_s (k : Nat) (u1 u2 : Int32) (x : mm_S) : l_m_pack_109 (k + 1) u1 u2 x = if nI 64 ≤ u2 then (64, mm_setI x 105 64) else l_m_pack_109 k u1 (u2 + 1) (mm_setA x 11 (upd (x.2.2 11) (Int32.toNatClampNeg u2) (if u1 = -1 then x.2.2 14 (Int32.toNatClampNeg u2) else e_m_makerByte u1 u2 x))) := by
  rw [l_m_pack_109]
  by_cases c : u1 = -1
  · rw [if_pos c, if_pos c]
    rfl
  · rw [if_neg c, if_neg c]
    rfl
theorem p109_l (u1 : Int32) (y : mm_S) : l_m_pack_109 (mm_fu 0 64) u1 0 y = (64, mm_setI (mm_setA y 11 (wr (y.2.2 11) 0 64 (fun t => if u1 = -1 then y.2.2 14 t else e_m_makerByte u1 (nI t) y))) 105 64) :=
  wr_loop0 (fun k t x => l_m_pack_109 k u1 (nI t) x) (fun x => (64, mm_setI x 105 64)) 11 0 64 (fun x t => if u1 = -1 then x.2.2 14 t else e_m_makerByte u1 (nI t) x) (fun k x => by
    rw [p109_s, if_pos (le_t (Nat.le_refl 64) (by decide))]) (fun k t x h => by
    rw [p109_s, if_neg (le_f h (by decide)), nI_1, pu_clamp (by omega), Nat.zero_add]) (fun _ _ _ _ _ _ => rfl) (mm_fu 0 64) y (by decide)
theorem o109_l (u1 : Int32) (y : mm_S) : okl_m_pack_109 (mm_fu 0 64) u1 0 y :=
  ok_loop (fun k t x => okl_m_pack_109 k u1 (nI t) x) 64 (fun k x => by
    rw [okl_m_pack_109, if_pos (by decide)]
    trivial) (fun k t x h ih => by
    rw [okl_m_pack_109, if_neg (show ¬ (64 : Int32) ≤ nI t from le_f (n := 64) h (by decide)), nI_1]
    have hin : vp_in (nI t) 64 := nI_in h (by decide)
    by_cases c : u1 = -1
    · rw [if_pos c]
      exact ⟨hin, hin, ih _⟩
    · rw [if_neg c]
      exact ⟨hin, ih _⟩) (mm_fu 0 64) 0 y (by decide) (by decide)
theorem p46_s (k : Nat) (u1 : Int32) (u2 : Int64) (u4 : Int32) (x : mm_S) : l_m_pack_46 (k + 1) u1 u2 u4 x = if x.1 109 ≤ u4 then l_m_pack_109 (mm_fu 0 64) u1 0 (e_m_header (x.1 108) (x.1 109) (x.1 110) u2 x) else l_m_pack_46 k u1 (t_m_pack_58 (mm_fu 0 64) u1 u2 u4 0 x) (u4 + 1) x := by
  rw [l_m_pack_46]
theorem p46_l {u1 : Int32} {y : mm_S} : ∀ (m k i : Nat) (d : Int64), y.1 109 = nI (i + m) → i + m < 2 ^ 31 → m < k → l_m_pack_46 k u1 d (nI i) y = l_m_pack_109 (mm_fu 0 64) u1 0 (e_m_header (y.1 108) (y.1 109) (y.1 110) (bdf (bst (y.1 111)) m i d) y) ∧ okl_m_pack_46 k u1 d (nI i) y
  | m, 0, i, d, _, _, h => by omega
  | 0, k + 1, i, d, h, hb, _ => by
    have hle : y.1 109 ≤ nI i := by
      rw [h]
      exact le_t (by omega) (by omega)
    rw [p46_s, okl_m_pack_46, if_pos hle, if_pos hle, bdf_0]
    exact ⟨rfl, ho, o109_l _ _⟩
  | m + 1, k + 1, i, d, h, hb, hk => by
    have hle : ¬ y.1 109 ≤ nI i := by
      rw [h]
      exact le_f (by omega) (by omega)
    have et : t_m_pack_58 (mm_fu 0 64) u1 d (nI i) 0 y = bst (y.1 111) i d := t58_l (mm_fu 0 64) 0 d (by decide) (by decide)
    have ot : okt_m_pack_58 (mm_fu 0 64) u1 d (nI i) 0 y := ot58_l (mm_fu 0 64) 0 d (by decide) (by decide)
    obtain ⟨i1, i2⟩ := p46_l (u1 := u1) (y := y) m k (i + 1) (bst (y.1 111) i d) (h.trans (by rw [show i + (m + 1) = i + 1 + m by omega])) (by omega) (by omega)
    rw [p46_s, okl_m_pack_46, if_neg hle, if_neg hle, et, nI_1, bdf_s]
    exact ⟨i1, ot, i2⟩
