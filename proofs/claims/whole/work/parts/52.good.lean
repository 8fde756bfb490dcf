/-! A slot that is good: the header copied, the counter, the body. -/
theorem cs_s (k n0 r0 n2 r2 : Nat) (u1 u3 u4 : Int32) (x : mm_S) : l_copySector_3 (k + 1) n0 r0 n2 r2 u1 u3 u4 x = if nI 64 ≤ u4 then x else l_copySector_3 k n0 r0 n2 r2 u1 u3 (u4 + 1) (e_putByte n2 r2 (u3 + u4) (e_byteAt n0 r0 (u1 + u4) x) x) := rfl
theorem cs_l {n0 r0 n2 r2 a c : Nat} (ha : a + 64 ≤ n0) (hn0 : n0 < 2 ^ 31) (hc : c + 64 ≤ n2) (hn2 : n2 < 2 ^ 31) (hr : ¬ r0 = r2) (x : mm_S) : e_copySector n0 r0 (nI a) n2 r2 (nI c) x = mm_setA x r2 (wr (x.2.2 r2) c 64 (fun t => bt (x.2.2 r0 (a + t) &&& 255))) := by
  unfold e_copySector
  exact wr_loop0 (fun k i x => l_copySector_3 k n0 r0 n2 r2 (nI a) (nI c) (nI i) x) (fun x => x) r2 c 64 (fun x t => bt (x.2.2 r0 (a + t) &&& 255)) (fun k x => by
    rw [cs_s, if_pos (le_t (n := 64) (Nat.le_refl 64) (by decide))]) (fun k i x h => by
    rw [cs_s, if_neg (le_f (n := 64) h (by decide)), nI_1, nI_add, nI_add, ba (by omega) hn0, pb (by omega) hn2]) (fun x i v t h1 h2 => by
    rw [gAn hr]) (mm_fu 0 64) x (by decide)
def hd (s : Nat) : Nat := 64 * (2 + 31 * s)
theorem hd_h {s : Nat} (hs : s < 2) (y : mm_S) : e_m_headOf (nI s) y = nI (hd s) := by
  have : s = 0 ∨ s = 1 := by omega
  rcases this with h | h <;> subst h
  · exact mm_ifp rfl (by decide)
  · exact mm_ifn (by decide) (by decide)
theorem hd_c {s : Nat} (hs : s < 2) (x : mm_S) : e_hsec (nI s) x = nI (2 + 31 * s) := by
  have : s = 0 ∨ s = 1 := by omega
  unfold e_hsec
  rcases this with h | h <;> subst h <;> decide
theorem hd_m {s : Nat} (hs : s < 2) : nI (2 + 31 * s) * 64 = nI (hd s) := by
  have : s = 0 ∨ s = 1 := by omega
  rcases this with h | h <;> subst h <;> decide
theorem hd_b {s : Nat} (hs : s < 2) : (nI (2 + 31 * s) + 1) * 64 = nI (hd s + 64) := by
  have : s = 0 ∨ s = 1 := by omega
  rcases this with h | h <;> subst h <;> decide
theorem hd_l {s : Nat} (hs : s < 2) : hd s + 1984 ≤ 4096 ∧ 128 ≤ hd s := by
  have : s = 0 ∨ s = 1 := by omega
  rcases this with h | h <;> subst h <;> decide
/-- the sheet holds a slot's header -/
def SH (x : mm_S) (s : Nat) : mm_S := mm_setA x 3 (wr (x.2.2 3) 0 64 (fun t => bt (x.2.2 1 (hd s + t) &&& 255)))
theorem SH_r {s : Nat} (hs : s < 2) (x : mm_S) : e_readHeader (nI s) x = SH x s := by
  have hl := hd_l hs
  unfold e_readHeader
  dsimp only
  rw [show (0 : Int32) = nI 0 from rfl, hd_c hs, hd_m hs, cs_l (by omega) (by decide) (by omega) (by decide) (by decide)]
  rfl
theorem SH_g {s j : Nat} (x : mm_S) (hj : j < 64) : g3 (SH x s) j = gF x (hd s + j) := by
  unfold g3 SH gF
  rw [gAs, wr_in (by omega) (by omega), bt_255, pu_and, Nat.sub_zero]
def ctY (y : mm_S) : Int64 := match nw (y.2.2 10) with
  | none => 0
  | some a => rdn (y.2.2 10) (a + 8) 4 0
theorem ct_m (y : mm_S) : e_m_counter y = ctY y := by
  unfold e_m_counter ctY
  rw [nm]
  cases hw : nw (y.2.2 10) with
  | none => exact if_pos rfl
  | some a =>
    have hb := nw_b hw
    have hne : ¬ ni (some a) = -1 := ni_m a (by omega)
    have e8 : ni (some a) + 8 = nI (a + 8) := nI_add a 8
    dsimp only
    rw [if_neg hne, e8]
    exact re_read (b := 4) (by omega)
theorem ct_ok (y : mm_S) : ok_m_counter y := by
  unfold ok_m_counter
  rw [nm]
  refine ⟨nm_ok y, ?_⟩
  cases hw : nw (y.2.2 10) with
  | none =>
    dsimp only
    rw [if_pos (show ni none = -1 from rfl)]
    trivial
  | some a =>
    have hb := nw_b hw
    have hne : ¬ ni (some a) = -1 := ni_m a (by omega)
    have e8 : ni (some a) + 8 = nI (a + 8) := nI_add a 8
    dsimp only
    rw [if_neg hne, e8]
    exact ⟨ok_rd (b := 4) (by omega) (by decide), trivial⟩
theorem RA_b {x y : mm_S} (hA : RA x y) {a n : Nat} (h : a + n ≤ 4096) : byt (y.2.2 10) a n := fun j h1 h2 => by
  rw [hA.1 j (by omega)]
  exact gF_b x 0 4096 j (by omega) (by omega)
theorem R_ct {x y : mm_S} (hA : RA x y) (hl : LG x) : x.1 27 = (ctY y).toInt32 ∧ 0 ≤ (ctY y).toInt ∧ (ctY y).toInt < 2 ^ 32 := by
  unfold ctY
  rw [R_nw hA]
  cases hw : nw (gF x) with
  | none =>
    dsimp only
    refine ⟨(hl.2.1 hw).2.2.2.2.2.trans ?_, ?_, ?_⟩ <;> decide
  | some a =>
    have hb := nw_b hw
    have r := rd4 (g := y.2.2 10) (a := a + 8) (RA_b hA (by omega))
    dsimp only
    refine ⟨(hl.2.2 a hw).2.2.2.2.2.trans ?_, r⟩
    rw [rdn_congr (g := y.2.2 10) (h := gF x) 4 (a + 8) 0 (fun j h1 h2 => hA.1 j (by omega))]
theorem bl_q {x : mm_S} {p c : Int64} (hp : 0 ≤ p.toInt ∧ p.toInt < 2 ^ 32) (hc : x.1 27 = c.toInt32 ∧ 0 ≤ c.toInt ∧ c.toInt < 2 ^ 32) : D (p.toInt < c.toInt) (e_isBelow p.toInt32 x) := by
  unfold e_isBelow
  rw [hc.1]
  refine D_0 ((pu_uc_ge hp.1 hp.2 hc.2.1 hc.2.2).trans ?_)
  omega
theorem wos_q {p : Int64} (h0 : 0 ≤ p.toInt) (h1 : p.toInt < 2 ^ 32) (x : mm_S) : e_wos p.toInt32 x = p := by
  apply Int64.toInt_inj.mp
  unfold e_wos
  rw [Jvm.Kit.i64_mask _ _ (k := 32) (by decide) (by decide), Int32.toInt_toInt64, pu_32, Int.bmod_def]
  split <;> omega
theorem sz_n {p : Int64} (h0 : 1 ≤ p.toInt) (h1 : p.toInt ≤ 30) : p.toInt32 = nI p.toInt.toNat := by
  apply Int32.toInt_inj.mp
  rw [nI_toInt (by omega), pu_32, Int.bmod_def]
  split <;> omega
theorem ml3 (a b : Nat) : nI a * nI b = nI (a * b) := (Int32.ofNat_mul a b).symm
theorem bd_c {s : Nat} {p q : Int64} {x : mm_S} (hs : s < 2) (hp : 0 ≤ p.toInt ∧ p.toInt < 2 ^ 32) (hq : 1 ≤ q.toInt ∧ q.toInt ≤ 30) : e_bdigest (nI s) p.toInt32 q.toInt32 x = dgs dg (gF x) (hd s + 64) (64 * q.toInt.toNat) p := by
  have hl := hd_l hs
  have e2 : nI q.toInt.toNat * 64 = nI (q.toInt.toNat * 64) := ml3 _ 64
  unfold e_bdigest e_bstart
  dsimp only
  rw [wos_q hp.1 hp.2, hd_c hs, hd_b hs, sz_n hq.1 hq.2, e2, nI_add, dgc (by omega) (by omega) (by decide), show hd s + 64 + q.toInt.toNat * 64 - (hd s + 64) = 64 * q.toInt.toNat by omega]
  rfl
theorem bd_m {s n r h : Nat} {y : mm_S} (hs : s < 2) (hh : h + 64 ≤ n) (hn : n < 2 ^ 31) (hq : 1 ≤ (rdn (y.2.2 r) (h + 8) 4 0).toInt ∧ (rdn (y.2.2 r) (h + 8) 4 0).toInt ≤ 30) : e_m_bodyOf (nI s) n r (nI h) y = dgs dg (y.2.2 10) (hd s + 64) (64 * (rdn (y.2.2 r) (h + 8) 4 0).toInt.toNat) (rdn (y.2.2 r) (h + 4) 4 0) := by
  have hl := hd_l hs
  have e4 : e_m_read n r (nI h + 4) 4 y = rdn (y.2.2 r) (h + 4) 4 0 := by
    rw [show nI h + 4 = nI (h + 4) from nI_add h 4]
    exact re_read (b := 4) (by omega)
  have e8 : e_m_read n r (nI h + 8) 4 y = rdn (y.2.2 r) (h + 8) 4 0 := by
    rw [show nI h + 8 = nI (h + 8) from nI_add h 8]
    exact re_read (b := 4) (by omega)
  have e2 : (64 : Int32) * nI (rdn (y.2.2 r) (h + 8) 4 0).toInt.toNat = nI (64 * (rdn (y.2.2 r) (h + 8) 4 0).toInt.toNat) := ml3 64 _
  unfold e_m_bodyOf
  rw [e4, e8, sz_n hq.1 hq.2]
  dsimp only
  rw [e2]
  exact dg_body (hd_h hs y) (by omega) _ 0 _ (by omega) (fu_k (by omega))
theorem bo_s (k : Nat) (u1 : Int32) (u4 : Int64) (u6 u7 : Int32) (x : mm_S) : okl_m_bodyOf_30 (k + 1) u1 u4 u6 u7 x = if u6 ≤ u7 then True else (vp_in (((e_m_headOf u1 x) + (64 : Int32)) + u7) 4096 ∧ okl_m_bodyOf_30 k u1 (e_m_digested u4 (x.2.2 10 (Int32.toNatClampNeg (((e_m_headOf u1 x) + (64 : Int32)) + u7))) x) u6 (u7 + 1) x) := rfl
theorem bo_l {s m : Nat} {y : mm_S} (hs : s < 2) (hm : hd s + 64 + m ≤ 4096) : ∀ (k i : Nat) (d : Int64), i ≤ m → m - i < k → okl_m_bodyOf_30 k (nI s) d (nI m) (nI i) y
  | 0, i, d, _, hk => by omega
  | k + 1, i, d, hi, hk => by
    rw [bo_s]
    by_cases q : m ≤ i
    · rw [if_pos (le_t q (by omega))]
      trivial
    · have e3 : (nI (hd s) + (64 : Int32)) + nI i = nI (hd s + 64 + i) := by rw [show (64 : Int32) = nI 64 from rfl, nI_add, nI_add]
      rw [if_neg (le_f (by omega) (by omega)), hd_h hs, e3, nI_1]
      exact ⟨nI_in (by omega) (by decide), bo_l hs hm k (i + 1) _ (by omega) (by omega)⟩
theorem bo {s n r h : Nat} {y : mm_S} (hs : s < 2) (hh : h + 64 ≤ n) (hn : n < 2 ^ 31) (hq : 1 ≤ (rdn (y.2.2 r) (h + 8) 4 0).toInt ∧ (rdn (y.2.2 r) (h + 8) 4 0).toInt ≤ 30) : ok_m_bodyOf (nI s) n r (nI h) y := by
  have hl := hd_l hs
  have e8 : e_m_read n r (nI h + 8) 4 y = rdn (y.2.2 r) (h + 8) 4 0 := by
    rw [show nI h + 8 = nI (h + 8) from nI_add h 8]
    exact re_read (b := 4) (by omega)
  have e2 : (64 : Int32) * nI (rdn (y.2.2 r) (h + 8) 4 0).toInt.toNat = nI (64 * (rdn (y.2.2 r) (h + 8) 4 0).toInt.toNat) := ml3 64 _
  have o4 : ok_m_read n r (nI h + 4) 4 y := by
    rw [show nI h + 4 = nI (h + 4) from nI_add h 4]
    exact ok_rd (b := 4) (by omega) hn
  have o8 : ok_m_read n r (nI h + 8) 4 y := by
    rw [show nI h + 8 = nI (h + 8) from nI_add h 8]
    exact ok_rd (b := 4) (by omega) hn
  unfold ok_m_bodyOf
  refine ⟨o4, o8, ?_⟩
  dsimp only
  rw [e8, sz_n hq.1 hq.2, e2]
  exact bo_l hs (by omega) _ 0 _ (by omega) (fu_k (by omega))
theorem pi_if {c : Prop} {inst : Decidable c} {a b : Int32} {x : mm_S} : (@ite (Int32 × mm_S) c inst (a, x) (b, x)) = (@ite Int32 c inst a b, x) := by
  split <;> rfl
/-- what is asked of a good slot's header and body -/
def GD (x : mm_S) (s : Nat) (c : Int64) : Prop := ¬ (rdn (gF x) (hd s + 4) 4 0).toInt < c.toInt ∧ dgs dg (gF x) (hd s + 64) (64 * (rdn (gF x) (hd s + 8) 4 0).toInt.toNat) (rdn (gF x) (hd s + 4) 4 0) = rdn (gF x) (hd s + 20) 8 0
theorem in_01 {s : Nat} (hs : s < 2) (y : mm_S) : ¬ e_m_in (Int32.toInt64 (nI s)) 0 1 y = 0 := by
  rw [pu_in, Int32.toInt_toInt64, nI_toInt (by omega)]
  intro h
  apply h
  rw [show (0 : Int64).toInt = 0 by decide, show (1 : Int64).toInt = 1 by decide]
  omega
theorem rs3 {x : mm_S} {s a n : Nat} (h : a + n ≤ 64) : rdn (g3 (SH x s)) a n 0 = rdn (gF x) (hd s + a) n 0 := by
  rw [rdn_s, rdn_congr (g := g3 (SH x s)) (h := fun j => gF x (hd s + j)) n a 0 (fun j h1 h2 => SH_g x (by omega))]
theorem ig_c {x : mm_S} {s : Nat} {c : Int64} (hs : s < 2) (hc : x.1 27 = c.toInt32 ∧ 0 ≤ c.toInt ∧ c.toInt < 2 ^ 32) (R0 : Prop) (hR : D R0 (e_isRight (SH x s))) (hR1 : R0 → 1 ≤ (rdn (gF x) (hd s + 8) 4 0).toInt ∧ (rdn (gF x) (hd s + 8) 4 0).toInt ≤ 30) : ∃ b, e_isGood (nI s) x = (b, SH x s) ∧ D (R0 ∧ GD x s c) b := by
  have hl := hd_l hs
  have e : e_isGood (nI s) x = (if (e_isRight (SH x s)) = (0 : Int32) then 0 else if (e_isBelow (e_hs_version (SH x s)) (SH x s)) = (0 : Int32) then if (lg_cmp (e_bdigest (nI s) (e_hs_version (SH x s)) (e_hs_size (SH x s)) (SH x s)) (e_hs_bdigest (SH x s))) = (0 : Int32) then 1 else 0 else 0, SH x s) := by
    rw [← pi_if, ← pi_if, ← pi_if, ← SH_r hs]
    rfl
  refine ⟨_, e, ?_⟩
  rw [s3_v, s3_s, s3_b, rs3 (by decide), rs3 (by decide), rs3 (by decide)]
  have r4 := rd4 (g := gF x) (a := hd s + 4) (gF_b x _ _)
  refine D_n (D_z hR) (fun hr => D_p ?_ (fun _ => D_1 ?_))
  · exact D_z (bl_q (x := SH x s) r4 hc)
  · rw [bd_c hs r4 (hR1 hr), pu_cmp_eq]
    exact Iff.rfl
theorem ig_m {x y : mm_S} {s : Nat} (hA : RA x y) (hs : s < 2) (R0 : Prop) (hR : D R0 (e_m_isRight 4096 10 (nI (hd s)) y)) (hR1 : R0 → 1 ≤ (rdn (gF x) (hd s + 8) 4 0).toInt ∧ (rdn (gF x) (hd s + 8) 4 0).toInt ≤ 30) : D (R0 ∧ GD x s (ctY y)) (e_m_isGood (nI s) y) := by
  have hl := hd_l hs
  have rq : ∀ a n, a + n ≤ 4096 → rdn (y.2.2 10) a n 0 = rdn (gF x) a n 0 := fun a n h => rdn_congr n a 0 (fun j h1 h2 => hA.1 j (by omega))
  have e4 : e_m_read 4096 10 (nI (hd s) + 4) 4 y = rdn (gF x) (hd s + 4) 4 0 := by
    rw [show nI (hd s) + 4 = nI (hd s + 4) from nI_add _ 4, ← rq _ _ (by omega)]
    exact re_read (b := 4) (by omega)
  have e20 : e_m_read 4096 10 (nI (hd s) + 20) 8 y = rdn (gF x) (hd s + 20) 8 0 := by
    rw [show nI (hd s) + 20 = nI (hd s + 20) from nI_add _ 20, ← rq _ _ (by omega)]
    exact re_read (b := 8) (by omega)
  have lt : ∀ p q : Int64, lg_cmp p q < 0 ↔ p.toInt < q.toInt := fun p q => by
    rw [← Int32.not_le, pu_cmp_ge]
    omega
  unfold e_m_isGood
  rw [if_neg (in_01 hs y), hd_h hs]
  dsimp only
  rw [e4, e20, ct_m]
  refine D_n (D_z hR) (fun hr => ?_)
  have h8 := hR1 hr
  rw [← rq (hd s + 8) 4 (by omega)] at h8
  rw [bd_m hs (n := 4096) (by omega) (by decide) h8, rq _ _ (by omega), rq _ _ (by omega)]
  refine D_n ((lt _ _).trans Decidable.not_not.symm) (fun _ => D_1 ?_)
  rw [pu_cmp_eq, dgs_congr (g := y.2.2 10) (h := gF x) _ _ _ (fun j h1 h2 => hA.1 j (by rw [rq _ _ (by omega)] at h8; omega))]
theorem ig_ok {x y : mm_S} {s : Nat} (hA : RA x y) (hs : s < 2) (R0 : Prop) (hR : D R0 (e_m_isRight 4096 10 (nI (hd s)) y)) (hR1 : R0 → 1 ≤ (rdn (gF x) (hd s + 8) 4 0).toInt ∧ (rdn (gF x) (hd s + 8) 4 0).toInt ≤ 30) : ok_m_isGood (nI s) y := by
  have hl := hd_l hs
  unfold ok_m_isGood
  rw [if_neg (in_01 hs y), hd_h hs]
  dsimp only
  refine ⟨ir_ok (by omega) (by decide), ?_⟩
  by_cases hr : R0
  · have h8 := hR1 hr
    rw [← rdn_congr (g := y.2.2 10) (h := gF x) 4 (hd s + 8) 0 (fun j h1 h2 => hA.1 j (by omega))] at h8
    rw [if_neg (fun q => (D_z hR).mp q hr), show nI (hd s) + 4 = nI (hd s + 4) from nI_add _ 4, show nI (hd s) + 20 = nI (hd s + 20) from nI_add _ 20]
    refine ⟨ok_rd (b := 4) (by omega) (by decide), ct_ok y, ?_⟩
    split
    · trivial
    · refine ⟨bo hs (by omega) (by decide) h8, ok_rd (b := 8) (by omega) (by decide), ?_⟩
      split <;> trivial
  · rw [if_pos ((D_z hR).mpr hr)]
    trivial
/-- the header of a slot is right: class and reference -/
theorem rs_q {x y : mm_S} {s : Nat} (hA : RA x y) (hM : RM x y) (hl : LG x) (hs : s < 2) : ∃ R0 : Prop, D R0 (e_isRight (SH x s)) ∧ D R0 (e_m_isRight 4096 10 (nI (hd s)) y) ∧ (R0 → 1 ≤ (rdn (gF x) (hd s + 8) 4 0).toInt ∧ (rdn (gF x) (hd s + 8) 4 0).toInt ≤ 30) := by
  have hd1 := hd_l hs
  have c := ir_c (SH x s)
  have e := ir_q (x := SH x s) (y := y) (n := 4096) (r := 10) (h := hd s) (by omega) (by decide) (fun j hj => by rw [SH_g x hj]; exact hA.1 _ (by omega)) hM.2.2.2.2.1 (R_rv hA hl)
  refine ⟨_, c, e ▸ c, fun h => ?_⟩
  have h2 := h.2.1
  rw [rs3 (by decide)] at h2
  exact h2
theorem ig_q {x y : mm_S} {s : Nat} (hA : RA x y) (hM : RM x y) (hl : LG x) (hs : s < 2) : e_isGood (nI s) x = (e_m_isGood (nI s) y, SH x s) ∧ ok_m_isGood (nI s) y ∧ (e_m_isGood (nI s) y = 0 ∨ e_m_isGood (nI s) y = 1) := by
  obtain ⟨R0, d1, d2, d3⟩ := rs_q hA hM hl hs
  obtain ⟨b, b1, b2⟩ := ig_c hs (R_ct hA hl) R0 d1 d3
  have m := ig_m hA hs R0 d2 d3
  refine ⟨?_, ig_ok hA hs R0 d2 d3, ?_⟩
  · rw [b1, D_e b2 m]
  · by_cases h : R0 ∧ GD x s (ctY y)
    · exact Or.inr (m.1 h)
    · exact Or.inl (m.2 h)
theorem ig_255 (y : mm_S) : e_m_isGood 255 y = 0 ∧ ok_m_isGood 255 y := by
  have h : e_m_in (Int32.toInt64 255) 0 1 y = 0 := by
    rw [pu_in]
    decide
  unfold e_m_isGood ok_m_isGood
  rw [if_pos h, if_pos h]
  exact ⟨rfl, trivial⟩
