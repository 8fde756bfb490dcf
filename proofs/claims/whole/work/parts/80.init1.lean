/-! The beginning, side by side: the blocks and their digest. -/
def kb (i t : Nat) : Int32 := (nI i + (3 : Int32) * nI t) &&& 255
def vb (i t : Nat) : Int32 := bt (nI i + (3 : Int32) * nI t)
theorem vb_k (i t : Nat) : vb i t &&& 255 = kb i t := bt_255 _
def kst (i : Nat) (d : Int64) : Int64 := dgs dg (kb i) 0 64 d
theorem kst_e (i : Nat) (d : Int64) : kst i d = dgs dg (kb i) 0 64 d := by
  unfold kst
  with_reducible rfl
def wb (V : Nat → Nat → Int32) : (Nat → Int32) → Nat → Nat → Nat → Int32
  | f, _, 0 => f
  | f, i, m + 1 => wb V (wr f (192 + 64 * i) 64 (V i)) (i + 1) m
theorem wb_s (V : Nat → Nat → Int32) (f : Nat → Int32) (i m : Nat) : wb V f i (m + 1) = wb V (wr f (192 + 64 * i) 64 (V i)) (i + 1) m := rfl
theorem wb_0 (V : Nat → Nat → Int32) (f : Nat → Int32) (i : Nat) : wb V f i 0 = f := rfl
theorem wb_out {V : Nat → Nat → Int32} : ∀ (m i : Nat) (f : Nat → Int32) (j : Nat), (j < 192 + 64 * i ∨ 192 + 64 * (i + m) ≤ j) → wb V f i m j = f j
  | 0, i, f, j, _ => rfl
  | m + 1, i, f, j, h => by
    rw [wb_s, wb_out m (i + 1) _ j (by omega), wr_out (by omega)]
theorem wb_in {V : Nat → Nat → Int32} : ∀ (m i : Nat) (f : Nat → Int32) (i' t : Nat), i ≤ i' → i' < i + m → t < 64 → wb V f i m (192 + 64 * i' + t) = V i' t
  | 0, i, f, i', t, h1, h2, _ => by omega
  | m + 1, i, f, i', t, h1, h2, ht => by
    rw [wb_s]
    by_cases h : i' = i
    · subst h
      rw [wb_out m (i' + 1) _ _ (by omega), wr_in (by omega) (by omega), show 192 + 64 * i' + t - (192 + 64 * i') = t by omega]
    · exact wb_in m (i + 1) _ i' t (by omega) (by omega) ht
theorem wb_q : ∀ (m i : Nat) (f g : Nat → Int32), (∀ j, j < 4096 → g j = f j &&& 255) → ∀ j, j < 4096 → wb kb g i m j = wb vb f i m j &&& 255
  | 0, i, f, g, h => h
  | m + 1, i, f, g, h => by
    rw [wb_s, wb_s]
    refine wb_q m (i + 1) _ _ (fun j hj => ?_)
    by_cases hr : 192 + 64 * i ≤ j ∧ j < 192 + 64 * i + 64
    · rw [wr_in hr.1 hr.2, wr_in hr.1 hr.2, vb_k]
    · rw [wr_out (by omega), wr_out (by omega)]
      exact h j hj
theorem kd {H : Nat → Int32} : ∀ (m i : Nat) (d : Int64), (∀ i', i ≤ i' → i' < i + m → ∀ t, t < 64 → H (192 + 64 * i' + t) = kb i' t) → dgs dg H (192 + 64 * i) (64 * m) d = bdf kst m i d
  | 0, i, d, _ => rfl
  | m + 1, i, d, h => by
    have e1 : dgs dg H (192 + 64 * i) 64 d = kst i d := by
      have e2 : dgs dg H (192 + 64 * i + 0) 64 d = dgs dg (fun j => H (192 + 64 * i + j)) 0 64 d := dgs_h dg H (192 + 64 * i) 64 0 d
      rw [Nat.add_zero] at e2
      rw [e2, dgs_congr (h := kb i) 64 0 d (fun j _ hj => h i (Nat.le_refl i) (by omega) j (by omega)), kst_e]
    rw [show 64 * (m + 1) = 64 + 64 * m by omega, dgs_add, e1, show 192 + 64 * i + 64 = 192 + 64 * (i + 1) by omega, kd m (i + 1) _ (fun i' h1 h2 => h i' (by omega) (by omega)), bdf_s]
theorem wr_cons (f : Nat → Int32) (a n : Nat) (V : Nat → Int32) : wr (upd f a (V 0)) (a + 1) n (fun t => V (t + 1)) = wr f a (n + 1) V := by
  funext j
  unfold wr
  by_cases h : j = a
  · subst h
    rw [if_neg (by omega), if_pos (by omega), upd_s, Nat.sub_self]
  · rw [upd_n h]
    by_cases h2 : a + 1 ≤ j ∧ j < a + 1 + n
    · rw [if_pos h2, if_pos (by omega)]
      show V (j - (a + 1) + 1) = V (j - a)
      congr 1
      omega
    · rw [if_neg h2, if_neg (by omega)]
/-! the class -/
theorem t150_s (k : Nat) (u1 u5 u6 u7 u8 : Int32) (x : mm_S) : t_TSi_150 (k + 1) u1 u5 u6 u7 u8 x = if nI 64 ≤ u8 then x else t_TSi_150 k u1 u5 u6 u7 (u8 + 1) (e_putByte 4096 1 ((u6 + (u7 * (64 : Int32))) + u8) (u7 + ((3 : Int32) * u8)) x) := rfl
theorem ix_1 (i t : Nat) : nI 192 + nI i * 64 + nI t = nI (192 + 64 * i + t) := by
  rw [show nI i * 64 = nI (i * 64) from ml3 i 64, nI_add, nI_add, Nat.mul_comm]
theorem t150_l {i : Nat} (hi : i < 30) (u1 u5 : Int32) (x : mm_S) : t_TSi_150 (mm_fu 0 64) u1 u5 (nI 192) (nI i) 0 x = mm_setA x 1 (wr (x.2.2 1) (192 + 64 * i) 64 (vb i)) :=
  wr_loop0 (fun k t x => t_TSi_150 k u1 u5 (nI 192) (nI i) (nI t) x) (fun x => x) 1 (192 + 64 * i) 64 (fun _ t => vb i t) (fun k x => by
    rw [t150_s, if_pos (le_t (Nat.le_refl 64) (by decide))]) (fun k t x h => by
    rw [t150_s, if_neg (le_f h (by decide)), nI_1, ix_1, pb (by omega) (by decide)]
    rfl) (fun _ _ _ _ _ _ => rfl) (mm_fu 0 64) x (by decide)
theorem ot150_s (k : Nat) (u1 u5 u6 u7 u8 : Int32) (x : mm_S) : okt_TSi_150 (k + 1) u1 u5 u6 u7 u8 x = if nI 64 ≤ u8 then True else okt_TSi_150 k u1 u5 u6 u7 (u8 + 1) (e_putByte 4096 1 ((u6 + (u7 * (64 : Int32))) + u8) (u7 + ((3 : Int32) * u8)) x) := rfl
theorem ot150_l (u1 u5 u6 u7 : Int32) (x : mm_S) : okt_TSi_150 (mm_fu 0 64) u1 u5 u6 u7 0 x :=
  ok_loop (fun k t x => okt_TSi_150 k u1 u5 u6 u7 (nI t) x) 64 (fun k x => by
    rw [ot150_s, if_pos (le_t (Nat.le_refl 64) (by decide))]
    trivial) (fun k t x h ih => by
    rw [ot150_s, if_neg (le_f h (by decide)), nI_1]
    exact ih _) (mm_fu 0 64) 0 x (by decide) (by decide)
def tE (u1 u5 : Int32) (x : mm_S) : mm_S := e_layFirst u1 (e_copySector 64 3 0 4096 1 ((e_hsec 0 (e_hs_compose u1 u5 0 (e_bdigest 0 u1 u5 x) (e_keyNumber 0 x) x)) * 64) (e_hs_compose u1 u5 0 (e_bdigest 0 u1 u5 x) (e_keyNumber 0 x) x))
theorem l140_s (k : Nat) (u1 u5 u6 u7 : Int32) (x : mm_S) : l_TSi_140 (k + 1) u1 u5 u6 u7 x = if u5 ≤ u7 then tE u1 u5 x else l_TSi_140 k u1 u5 u6 (u7 + 1) (t_TSi_150 (mm_fu 0 64) u1 u5 u6 u7 0 x) := by
  rw [l_TSi_140]
  rfl
theorem o140_s (k : Nat) (u1 u5 u6 u7 : Int32) (x : mm_S) : okl_TSi_140 (k + 1) u1 u5 u6 u7 x = if u5 ≤ u7 then True else (okt_TSi_150 (mm_fu 0 64) u1 u5 u6 u7 0 x ∧ okl_TSi_140 k u1 u5 u6 (u7 + 1) (t_TSi_150 (mm_fu 0 64) u1 u5 u6 u7 0 x)) := by
  rw [okl_TSi_140]
theorem sAA (x : mm_S) (r : Nat) : mm_setA x r (x.2.2 r) = x := by
  have e3 : va_up x.2.2 r (x.2.2 r) = x.2.2 := by
    funext j
    unfold va_up
    split
    · next h => rw [h]
    · rfl
  unfold mm_setA
  rw [e3]
theorem l140_l {u1 : Int32} {b : Nat} (hb : b ≤ 30) : ∀ (m k i : Nat) (x : mm_S), i + m = b → m < k → l_TSi_140 k u1 (nI b) (nI 192) (nI i) x = tE u1 (nI b) (mm_setA x 1 (wb vb (x.2.2 1) i m)) ∧ okl_TSi_140 k u1 (nI b) (nI 192) (nI i) x
  | m, 0, i, x, _, h => by omega
  | 0, k + 1, i, x, hi, _ => by
    rw [l140_s, o140_s, if_pos (le_t (by omega) (by omega)), if_pos (le_t (by omega) (by omega)), wb_0, sAA]
    exact ⟨rfl, trivial⟩
  | m + 1, k + 1, i, x, hi, hk => by
    obtain ⟨i1, i2⟩ := l140_l (u1 := u1) hb m k (i + 1) (mm_setA x 1 (wr (x.2.2 1) (192 + 64 * i) 64 (vb i))) (by omega) (by omega)
    rw [l140_s, o140_s, if_neg (le_f (by omega) (by omega)), if_neg (le_f (by omega) (by omega)), nI_1, t150_l (by omega), i1, gAA, gAs, wb_s]
    exact ⟨rfl, ot150_l _ _ _ _ _, i2⟩
/-! the reference -/
theorem t135_s (k : Nat) (u1 u5 : Int32) (u6 : Int64) (u8 u9 : Int32) (x : mm_S) : t_MOi_135 (k + 1) u1 u5 u6 u8 u9 x = if nI 64 ≤ u9 then (u6, x) else t_MOi_135 k u1 u5 (dg u6 ((u8 + ((3 : Int32) * u9)) &&& (255 : Int32))) u8 (u9 + 1) (mm_setA x 10 (upd (x.2.2 10) (Int32.toNatClampNeg (((64 : Int32) * ((3 : Int32) + u8)) + u9)) ((u8 + ((3 : Int32) * u9)) &&& (255 : Int32)))) := by
  rw [← dg_m u6 ((u8 + ((3 : Int32) * u9)) &&& (255 : Int32)) (mm_setA x 10 (upd (x.2.2 10) (Int32.toNatClampNeg (((64 : Int32) * ((3 : Int32) + u8)) + u9)) ((u8 + ((3 : Int32) * u9)) &&& (255 : Int32))))]
  rfl
theorem o135_s (k : Nat) (u1 u5 : Int32) (u6 : Int64) (u8 u9 : Int32) (x : mm_S) : okt_MOi_135 (k + 1) u1 u5 u6 u8 u9 x = if nI 64 ≤ u9 then True else (vp_in (((64 : Int32) * ((3 : Int32) + u8)) + u9) 4096 ∧ okt_MOi_135 k u1 u5 (e_m_digested u6 ((u8 + ((3 : Int32) * u9)) &&& (255 : Int32)) (mm_setA x 10 (upd (x.2.2 10) (Int32.toNatClampNeg (((64 : Int32) * ((3 : Int32) + u8)) + u9)) ((u8 + ((3 : Int32) * u9)) &&& (255 : Int32))))) u8 (u9 + 1) (mm_setA x 10 (upd (x.2.2 10) (Int32.toNatClampNeg (((64 : Int32) * ((3 : Int32) + u8)) + u9)) ((u8 + ((3 : Int32) * u9)) &&& (255 : Int32))))) := rfl
theorem ix_2 (i t : Nat) : (64 : Int32) * ((3 : Int32) + nI i) + nI t = nI (192 + 64 * i + t) := by
  rw [show (3 : Int32) + nI i = nI (3 + i) from nI_add 3 i, show (64 : Int32) * nI (3 + i) = nI (64 * (3 + i)) from ml3 64 (3 + i), nI_add]
  congr 1
  omega
theorem t135_l {i : Nat} (hi : i < 30) {u1 u5 : Int32} : ∀ (k t : Nat) (d : Int64) (x : mm_S), t ≤ 64 → 64 - t < k → t_MOi_135 k u1 u5 d (nI i) (nI t) x = (dgs dg (kb i) t (64 - t) d, mm_setA x 10 (wr (x.2.2 10) (192 + 64 * i + t) (64 - t) (fun j => kb i (t + j)))) ∧ okt_MOi_135 k u1 u5 d (nI i) (nI t) x
  | 0, t, d, x, _, hk => by omega
  | k + 1, t, d, x, ht, hk => by
    by_cases q : 64 ≤ t
    · have e0 : 64 - t = 0 := by omega
      rw [t135_s, o135_s, if_pos (le_t q (by omega)), if_pos (le_t q (by omega)), e0, wr_0, sAA]
      exact ⟨rfl, trivial⟩
    · obtain ⟨c, hc⟩ : ∃ c, 64 - t = c + 1 := ⟨64 - t - 1, by omega⟩
      obtain ⟨i1, -⟩ := t135_l hi (u1 := u1) (u5 := u5) k (t + 1) (dg d (kb i t)) (mm_setA x 10 (upd (x.2.2 10) (192 + 64 * i + t) (kb i t))) (by omega) (by omega)
      obtain ⟨-, i2⟩ := t135_l hi (u1 := u1) (u5 := u5) k (t + 1) (e_m_digested d (kb i t) (mm_setA x 10 (upd (x.2.2 10) (192 + 64 * i + t) (kb i t)))) (mm_setA x 10 (upd (x.2.2 10) (192 + 64 * i + t) (kb i t))) (by omega) (by omega)
      have ek : (nI i + (3 : Int32) * nI t) &&& (255 : Int32) = kb i t := rfl
      rw [t135_s, o135_s, if_neg (le_f (by omega) (by omega)), if_neg (le_f (by omega) (by omega)), nI_1, ix_2, pu_clamp (by omega), ek, i1, hc, dgs_s, show 64 - (t + 1) = c by omega, gAA, gAs]
      refine ⟨?_, nI_in (by omega) (by decide), i2⟩
      have e5 := wr_cons (x.2.2 10) (192 + 64 * i + t) c (fun j => kb i (t + j))
      rw [← e5]
      congr 3
      funext j
      show kb i (t + 1 + j) = kb i (t + (j + 1))
      congr 1
      omega
def mE (u1 u5 : Int32) (d : Int64) (x : mm_S) : mm_S := l_MOi_206 (mm_fu 0 64) u1 0 (e_m_header u1 u5 0 d x)
theorem l125_s (k : Nat) (u1 u5 : Int32) (u6 : Int64) (u8 : Int32) (x : mm_S) : l_MOi_125 (k + 1) u1 u5 u6 u8 x = if u5 ≤ u8 then mE u1 u5 u6 x else l_MOi_125 k u1 u5 (t_MOi_135 (mm_fu 0 64) u1 u5 u6 u8 0 x).1 (u8 + 1) (t_MOi_135 (mm_fu 0 64) u1 u5 u6 u8 0 x).2 := by
  rw [l_MOi_125]
  rfl
theorem o125_s (k : Nat) (u1 u5 : Int32) (u6 : Int64) (u8 : Int32) (x : mm_S) : okl_MOi_125 (k + 1) u1 u5 u6 u8 x = if u5 ≤ u8 then (ok_m_header u1 u5 0 u6 x ∧ okl_MOi_206 (mm_fu 0 64) u1 0 (e_m_header u1 u5 0 u6 x)) else (okt_MOi_135 (mm_fu 0 64) u1 u5 u6 u8 0 x ∧ okl_MOi_125 k u1 u5 (t_MOi_135 (mm_fu 0 64) u1 u5 u6 u8 0 x).1 (u8 + 1) (t_MOi_135 (mm_fu 0 64) u1 u5 u6 u8 0 x).2) := by
  rw [okl_MOi_125]
theorem l125_l {u1 : Int32} {b : Nat} (hb : b ≤ 30) (h206 : ∀ z, okl_MOi_206 (mm_fu 0 64) u1 0 z) : ∀ (m k i : Nat) (d : Int64) (x : mm_S), i + m = b → m < k → l_MOi_125 k u1 (nI b) d (nI i) x = mE u1 (nI b) (bdf kst m i d) (mm_setA x 10 (wb kb (x.2.2 10) i m)) ∧ okl_MOi_125 k u1 (nI b) d (nI i) x
  | m, 0, i, d, x, _, h => by omega
  | 0, k + 1, i, d, x, hi, _ => by
    rw [l125_s, o125_s, if_pos (le_t (by omega) (by omega)), if_pos (le_t (by omega) (by omega)), wb_0, sAA, bdf_0]
    exact ⟨rfl, ho, h206 _⟩
  | m + 1, k + 1, i, d, x, hi, hk => by
    have e := (t135_l (i := i) (by omega) (u1 := u1) (u5 := nI b) (mm_fu 0 64) 0 d x (by decide) (by decide)).1
    have o := (t135_l (i := i) (by omega) (u1 := u1) (u5 := nI b) (mm_fu 0 64) 0 d x (by decide) (by decide)).2
    have e' : t_MOi_135 (mm_fu 0 64) u1 (nI b) d (nI i) 0 x = (kst i d, mm_setA x 10 (wr (x.2.2 10) (192 + 64 * i) 64 (kb i))) := by
      refine e.trans ?_
      have f : (fun j => kb i (0 + j)) = kb i := by
        funext j
        rw [Nat.zero_add]
      rw [f, Nat.sub_zero, Nat.add_zero, ← kst_e]
    obtain ⟨i1, i2⟩ := l125_l (u1 := u1) hb h206 m k (i + 1) (kst i d) (mm_setA x 10 (wr (x.2.2 10) (192 + 64 * i) 64 (kb i))) (by omega) (by omega)
    rw [l125_s, o125_s, if_neg (le_f (by omega) (by omega)), if_neg (le_f (by omega) (by omega)), nI_1, e']
    dsimp only
    rw [i1, gAA, gAs, wb_s, bdf_s]
    exact ⟨rfl, o, i2⟩
