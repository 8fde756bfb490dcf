/-! What the maker packs. -/
/-- byte t of block i -/
def mkb (sd : Int32) (i t : Nat) : Int32 := ((sd + (5 : Int32) * nI i) + nI t) &&& 255
def bst (sd : Int32) (i : Nat) (d : Int64) : Int64 := dgs dg (mkb sd i) 0 64 d
def bdf (st : Nat → Int64 → Int64) : Nat → Nat → Int64 → Int64
  | 0, _, d => d
  | m + 1, i, d => bdf st m (i + 1) (st i d)
theorem bdf_s (st : Nat → Int64 → Int64) (m i : Nat) (d : Int64) : bdf st (m + 1) i d = bdf st m (i + 1) (st i d) := rfl
theorem bdf_0 (st : Nat → Int64 → Int64) (i : Nat) (d : Int64) : bdf st 0 i d = d := rfl
theorem lb_s (k n r : Nat) (u1 u3 : Int32) (x : mm_S) : l_layBlock_2 (k + 1) n r u1 u3 x = if nI 64 ≤ u3 then x else l_layBlock_2 k n r u1 (u3 + 1) (e_putByte n r u3 (((x.1 33) + ((5 : Int32) * u1)) + u3) x) := rfl
theorem lb_l {i : Nat} (x : mm_S) : e_layBlock (nI i) 64 0 x = mm_setA x 0 (wr (x.2.2 0) 0 64 (fun t => bt ((x.1 33 + (5 : Int32) * nI i) + nI t))) := by
  unfold e_layBlock
  exact wr_loop0 (fun k t x => l_layBlock_2 k 64 0 (nI i) (nI t) x) (fun x => x) 0 0 64 (fun x t => bt ((x.1 33 + (5 : Int32) * nI i) + nI t)) (fun k x => by
    rw [lb_s, if_pos (le_t (Nat.le_refl 64) (by decide))]) (fun k t x h => by
    rw [lb_s, if_neg (le_f h (by decide)), nI_1, pb (by omega) (by decide), Nat.zero_add]) (fun _ _ _ _ _ _ => rfl) (mm_fu 0 64) x (by decide)
theorem lb_g {i : Nat} {f : Nat → Int32} {sd : Int32} {j : Nat} (hj : j < 64) : wr f 0 64 (fun t => bt ((sd + (5 : Int32) * nI i) + nI t)) j &&& 255 = mkb sd i j := by
  rw [wr_in (by omega) (by omega), bt_255, Nat.sub_zero]
  rfl
theorem md_s (k n r : Nat) (u2 : Int64) (u4 : Int32) (x : mm_S) : l_mbdigest_11 (k + 1) n r u2 u4 x = if x.1 31 ≤ u4 then (u2, x) else l_mbdigest_11 k n r (e_digest u2 n r 0 64 (e_layBlock u4 n r x)) (u4 + 1) (e_layBlock u4 n r x) := rfl
theorem md_l : ∀ (m k i : Nat) (d : Int64) (x : mm_S), x.1 31 = nI (i + m) → i + m < 2 ^ 31 → m < k → ∃ F, l_mbdigest_11 k 64 0 d (nI i) x = (bdf (bst (x.1 33)) m i d, mm_setA x 0 F)
  | m, 0, i, d, x, _, _, h => by omega
  | 0, k + 1, i, d, x, h, hb, _ => by
    refine ⟨x.2.2 0, ?_⟩
    have e2 : mm_setA x 0 (x.2.2 0) = x := by
      have e3 : va_up x.2.2 0 (x.2.2 0) = x.2.2 := by
        funext j
        unfold va_up
        split
        · next h => rw [h]
        · rfl
      unfold mm_setA
      rw [e3]
    rw [md_s, h, if_pos (le_t (by omega) (by omega)), e2, bdf_0]
  | m + 1, k + 1, i, d, x, h, hb, hk => by
    rw [md_s, h, if_neg (le_f (by omega) (by omega)), nI_1, lb_l]
    have ed : ∀ z : mm_S, e_digest d 64 0 0 64 z = dgs dg (fun j => z.2.2 0 j &&& 255) 0 64 d := fun z => dgc (n := 64) (r := 0) (a := 0) (e := 64) (v := d) (x := z) (by decide) (by decide) (by decide)
    have ed2 : ∀ z : mm_S, (∀ j, j < 64 → z.2.2 0 j &&& 255 = mkb (x.1 33) i j) → e_digest d 64 0 0 64 z = bst (x.1 33) i d := fun z hz => by
      rw [ed, dgs_congr (h := mkb (x.1 33) i) 64 0 d (fun j _ hj => hz j (by omega))]
      rfl
    rw [ed2 _ (fun j hj => by rw [gAs]; exact lb_g hj)]
    obtain ⟨F, hF⟩ := md_l m k (i + 1) (bst (x.1 33) i d) (mm_setA x 0 (wr (x.2.2 0) 0 64 (fun t => bt ((x.1 33 + (5 : Int32) * nI i) + nI t)))) (h.trans (by rw [show i + (m + 1) = i + 1 + m by omega])) (by omega) (by omega)
    have hF' : l_mbdigest_11 k 64 0 (bst (x.1 33) i d) (nI (i + 1)) (mm_setA x 0 (wr (x.2.2 0) 0 64 (fun t => bt ((x.1 33 + (5 : Int32) * nI i) + nI t)))) = (bdf (bst (x.1 33)) m (i + 1) (bst (x.1 33) i d), mm_setA (mm_setA x 0 (wr (x.2.2 0) 0 64 (fun t => bt ((x.1 33 + (5 : Int32) * nI i) + nI t)))) 0 F) := hF
    refine ⟨F, ?_⟩
    rw [hF', gAA, bdf_s]
theorem mkb_m (i j : Nat) (x : mm_S) : e_m_makerByte (nI i) (nI j) x = mkb (x.1 111) i j := rfl
theorem t58_s (k : Nat) (u1 : Int32) (u2 : Int64) (u4 u5 : Int32) (x : mm_S) : t_m_pack_58 (k + 1) u1 u2 u4 u5 x = if nI 64 ≤ u5 then u2 else t_m_pack_58 k u1 (dg u2 (e_m_makerByte u4 u5 x)) u4 (u5 + 1) x := by
  rw [← dg_m u2 (e_m_makerByte u4 u5 x) x]
  rfl
theorem t58_l {u1 : Int32} {i : Nat} {x : mm_S} : ∀ (k j : Nat) (d : Int64), j ≤ 64 → 64 - j < k → t_m_pack_58 k u1 d (nI i) (nI j) x = dgs dg (mkb (x.1 111) i) j (64 - j) d
  | 0, j, d, _, hk => by omega
  | k + 1, j, d, hj, hk => by
    by_cases q : 64 ≤ j
    · have e0 : 64 - j = 0 := by omega
      rw [t58_s, if_pos (le_t q (by omega)), e0]
      rfl
    · obtain ⟨c, hc⟩ : ∃ c, 64 - j = c + 1 := ⟨64 - j - 1, by omega⟩
      rw [t58_s, if_neg (le_f (by omega) (by omega)), nI_1, t58_l k (j + 1) _ (by omega) (by omega), hc, dgs_s, show 64 - (j + 1) = c by omega, mkb_m]
theorem ot58_s (k : Nat) (u1 : Int32) (u2 : Int64) (u4 u5 : Int32) (x : mm_S) : okt_m_pack_58 (k + 1) u1 u2 u4 u5 x = if nI 64 ≤ u5 then True else okt_m_pack_58 k u1 (e_m_digested u2 (e_m_makerByte u4 u5 x) x) u4 (u5 + 1) x := rfl
theorem ot58_l {u1 u4 : Int32} {x : mm_S} : ∀ (k j : Nat) (d : Int64), j ≤ 64 → 64 - j < k → okt_m_pack_58 k u1 d u4 (nI j) x
  | 0, j, d, _, hk => by omega
  | k + 1, j, d, hj, hk => by
    rw [ot58_s]
    by_cases q : 64 ≤ j
    · rw [if_pos (le_t q (by omega))]
      trivial
    · rw [if_neg (le_f (by omega) (by omega)), nI_1]
      exact ot58_l k (j + 1) _ (by omega) (by omega)
