/-! The class's and the reference's digests of bodies, by their loops. -/
theorem dl_s (k n r : Nat) (d : Int64) (u v : Int32) (x : mm_S) : l_digest_19 (k + 1) n r d u v x = if u ≤ v then d else l_digest_19 k n r (dg d ((x.2.2 r (Int32.toNatClampNeg v)) &&& 255)) u (v + 1) x := by
  rw [← dg_c d ((x.2.2 r (Int32.toNatClampNeg v)) &&& 255) x]
  rfl
theorem dg_loop {n r : Nat} {x : mm_S} {e : Nat} (he : e < 2 ^ 31) : ∀ (k i : Nat) (d : Int64), i ≤ e → e - i < k → l_digest_19 k n r d (nI e) (nI i) x = dgs dg (fun j => x.2.2 r j &&& 255) i (e - i) d
  | 0, i, d, _, hk => by omega
  | k + 1, i, d, hi, hk => by
    by_cases h : e ≤ i
    · have e0 : e - i = 0 := by omega
      rw [dl_s, if_pos ((nI_leI (by omega) (by omega)).mpr h), e0]
      rfl
    · obtain ⟨c, hc⟩ : ∃ c, e - i = c + 1 := ⟨e - i - 1, by omega⟩
      rw [dl_s, if_neg (fun q => h ((nI_leI (by omega) (by omega)).mp q)), nI_1, pu_clamp (by omega), dg_loop he k (i + 1) _ (by omega) (by omega), hc, dgs_s, show e - (i + 1) = c by omega]
theorem db_s (k : Nat) (u : Int32) (d : Int64) (w v : Int32) (x : mm_S) : l_m_bodyOf_30 (k + 1) u d w v x = if w ≤ v then d else l_m_bodyOf_30 k u (dg d (x.2.2 10 (Int32.toNatClampNeg (((e_m_headOf u x) + (64 : Int32)) + v)))) w (v + 1) x := by
  rw [← dg_m d (x.2.2 10 (Int32.toNatClampNeg (((e_m_headOf u x) + (64 : Int32)) + v))) x]
  rfl
theorem dg_body {x : mm_S} {u : Int32} {h0 n : Nat} (hh : e_m_headOf u x = nI h0) (hn : h0 + 64 + n < 2 ^ 31) : ∀ (k i : Nat) (d : Int64), i ≤ n → n - i < k → l_m_bodyOf_30 k u d (nI n) (nI i) x = dgs dg (x.2.2 10) (h0 + 64 + i) (n - i) d
  | 0, i, d, _, hk => by omega
  | k + 1, i, d, hi, hk => by
    by_cases h : n ≤ i
    · have e0 : n - i = 0 := by omega
      rw [db_s, if_pos ((nI_leI (by omega) (by omega)).mpr h), e0]
      rfl
    · obtain ⟨c, hc⟩ : ∃ c, n - i = c + 1 := ⟨n - i - 1, by omega⟩
      have e3 : (nI h0 + (64 : Int32)) + nI i = nI (h0 + 64 + i) := by rw [show (64 : Int32) = nI 64 from rfl, nI_add, nI_add]
      rw [db_s, if_neg (fun q => h ((nI_leI (by omega) (by omega)).mp q)), hh, e3, nI_1, pu_clamp (by omega), dg_body hh hn k (i + 1) _ (by omega) (by omega), hc, dgs_s, show n - (i + 1) = c by omega, show h0 + 64 + (i + 1) = h0 + 64 + i + 1 by omega]
