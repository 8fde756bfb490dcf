/-! A line. -/
theorem pl_s (k n1 r1 : Nat) (u1 u3 u4 u5 : Int32) (x : mm_S) : l_pline_11 (k + 1) n1 r1 u1 u3 u4 u5 x = if u4 ≤ u5 then (if x.1 12 = 0 then (1, x) else (0, x)) else l_pline_11 k n1 r1 u1 u3 u4 (u5 + 1) (e_putByte 4096 1 (u1 + u5) ((e_byteAt 4096 1 (u1 + u5) x) &&& (e_byteAt n1 r1 (u3 + u5) x)) x) := rfl
theorem pm_s (k n1 r1 : Nat) (u1 u3 u4 u5 : Int32) (x : mm_S) : l_m_programmed_11 (k + 1) n1 r1 u1 u3 u4 u5 x = if u4 ≤ u5 then (if x.1 100 = 0 then (1, x) else (0, x)) else l_m_programmed_11 k n1 r1 u1 u3 u4 (u5 + 1) (mm_setA x 10 (upd (x.2.2 10) (Int32.toNatClampNeg (u1 + u5)) ((x.2.2 10 (Int32.toNatClampNeg (u1 + u5))) &&& (x.2.2 r1 (Int32.toNatClampNeg (u3 + u5)))))) := rfl
theorem po_s (k n1 r1 : Nat) (u1 u3 u4 u5 : Int32) (x : mm_S) : okl_m_programmed_11 (k + 1) n1 r1 u1 u3 u4 u5 x = if u4 ≤ u5 then (if x.1 100 = 0 then True else True) else (vp_in (u1 + u5) 4096 ∧ vp_in (u3 + u5) n1 ∧ vp_in (u1 + u5) 4096 ∧ okl_m_programmed_11 k n1 r1 u1 u3 u4 (u5 + 1) (mm_setA x 10 (upd (x.2.2 10) (Int32.toNatClampNeg (u1 + u5)) ((x.2.2 10 (Int32.toNatClampNeg (u1 + u5))) &&& (x.2.2 r1 (Int32.toNatClampNeg (u3 + u5))))))) := rfl
theorem pl_l {n1 r1 a f m : Nat} (ha : a + 16 ≤ 4096) (hf : f + 16 ≤ n1) (hn : n1 < 2 ^ 31) (hr : ¬ r1 = 1) (hm : m ≤ 16) (x : mm_S) : l_pline_11 (mm_fu 0 (nI m)) n1 r1 (nI a) (nI f) (nI m) 0 x = (if x.1 12 = 0 then 1 else 0, mm_setA x 1 (wr (x.2.2 1) a m (fun t => bt ((x.2.2 1 (a + t) &&& 255) &&& (x.2.2 r1 (f + t) &&& 255))))) :=
  wr_loop0 (fun k i x => l_pline_11 k n1 r1 (nI a) (nI f) (nI m) (nI i) x) (fun x => ((if x.1 12 = 0 then 1 else 0 : Int32), x)) 1 a m (fun x t => bt ((x.2.2 1 (a + t) &&& 255) &&& (x.2.2 r1 (f + t) &&& 255))) (fun k x => by
    rw [pl_s, if_pos (le_t (Nat.le_refl m) (by omega)), i_b]) (fun k i x h => by
    rw [pl_s, if_neg (le_f h (by omega)), nI_1, nI_add, nI_add, ba (by omega) (by decide), ba (by omega) hn, pb (by omega) (by decide)]) (fun x i v t h1 h2 => by
    rw [gAs, gAn hr, upd_n (by omega)]) (mm_fu 0 (nI m)) x (fu_k (by omega))
theorem pm_l {n1 r1 a f m : Nat} (ha : a + 16 ≤ 4096) (hf : f + 16 ≤ n1) (hn : n1 < 2 ^ 31) (hr : ¬ r1 = 10) (hm : m ≤ 16) (x : mm_S) : l_m_programmed_11 (mm_fu 0 (nI m)) n1 r1 (nI a) (nI f) (nI m) 0 x = (if x.1 100 = 0 then 1 else 0, mm_setA x 10 (wr (x.2.2 10) a m (fun t => x.2.2 10 (a + t) &&& x.2.2 r1 (f + t)))) :=
  wr_loop0 (fun k i x => l_m_programmed_11 k n1 r1 (nI a) (nI f) (nI m) (nI i) x) (fun x => ((if x.1 100 = 0 then 1 else 0 : Int32), x)) 10 a m (fun x t => x.2.2 10 (a + t) &&& x.2.2 r1 (f + t)) (fun k x => by
    rw [pm_s, if_pos (le_t (Nat.le_refl m) (by omega)), i_b]) (fun k i x h => by
    rw [pm_s, if_neg (le_f h (by omega)), nI_1, nI_add, nI_add, pu_clamp (by omega), pu_clamp (by omega)]) (fun x i v t h1 h2 => by
    rw [gAs, gAn hr, upd_n (by omega)]) (mm_fu 0 (nI m)) x (fu_k (by omega))
theorem po_l {n1 r1 a f m : Nat} (ha : a + 16 ≤ 4096) (hf : f + 16 ≤ n1) (hn : n1 < 2 ^ 31) (hm : m ≤ 16) (x : mm_S) : okl_m_programmed_11 (mm_fu 0 (nI m)) n1 r1 (nI a) (nI f) (nI m) 0 x :=
  ok_loop (fun k i x => okl_m_programmed_11 k n1 r1 (nI a) (nI f) (nI m) (nI i) x) m (fun k x => by
    rw [po_s, if_pos (le_t (Nat.le_refl m) (by omega))]
    split <;> trivial) (fun k i x h ih => by
    rw [po_s, if_neg (le_f h (by omega)), nI_1, nI_add, nI_add]
    exact ⟨nI_in (by omega) (by decide), nI_in (by omega) hn, nI_in (by omega) (by decide), ih _⟩) (mm_fu 0 (nI m)) 0 x (by omega) (fu_k (by omega))
theorem pl_r {v w m : Int32} {n r : Nat} {x p : mm_S} (h : e_bnw 16 x = (m, p)) : e_pline v n r w x = l_pline_11 (mm_fu 0 m) n r v w m 0 p := by
  unfold e_pline
  dsimp only
  rw [h]
theorem pm_r {v w m : Int32} {n r : Nat} {y q : mm_S} (h : e_m_goes 16 y = (m, q)) : e_m_programmed v n r w y = l_m_programmed_11 (mm_fu 0 m) n r v w m 0 q := by
  unfold e_m_programmed
  dsimp only
  rw [h]
theorem po_r {v w m : Int32} {n r : Nat} {y q : mm_S} (h : e_m_goes 16 y = (m, q)) (h1 : ok_m_goes 16 y) (h2 : okl_m_programmed_11 (mm_fu 0 m) n r v w m 0 q) : ok_m_programmed v n r w y := by
  unfold ok_m_programmed
  dsimp only
  rw [h]
  exact ⟨h1, h2⟩
theorem pu_and2 (u w : Int32) : (u &&& (w &&& 255)) &&& 255 = u &&& (w &&& 255) := by
  rw [Int32.and_assoc, pu_and]
theorem pl_q {x y : mm_S} {a f n r n' r' : Nat} (hA : RA x y) (hC : RC x y) (hM : RM x y) (hP : RP x y) (h12 : x.1 12 = 0) (ha : a + 16 ≤ 4096) (hf : f + 16 ≤ n) (hn : n < 2 ^ 31) (hf' : f + 16 ≤ n') (hn' : n' < 2 ^ 31) (hr : ¬ r = 1) (hr' : ¬ r' = 10) (hr2 : ¬ r' = 13) (hw : ∀ t, t < 16 → y.2.2 r' (f + t) = x.2.2 r (f + t) &&& 255) : ∃ (b : Int32) (p q : mm_S), e_pline (nI a) n r (nI f) x = (b, p) ∧ e_m_programmed (nI a) n' r' (nI f) y = (b, q) ∧ ok_m_programmed (nI a) n' r' (nI f) y ∧ WW x y p q b ∧ ∀ j, j < a ∨ a + 16 ≤ j → p.2.2 1 j = x.2.2 1 j := by
  obtain ⟨m, p, q, h1, h2, h3, h4, h5⟩ := w1 (x := x) (y := y) (n := 16) (Or.inr rfl) hC hP h12
  have ep : p.2.2 = x.2.2 := by rw [h5.2.2.1]
  have eq10 : q.2.2 10 = y.2.2 10 := h5.2.2.2.2.2.1 10 (by decide)
  have eqr : q.2.2 r' = y.2.2 r' := h5.2.2.2.2.2.1 r' hr2
  have hW := WB_W (a := a) (m := m) (V := fun t => bt ((p.2.2 1 (a + t) &&& 255) &&& (p.2.2 r (f + t) &&& 255))) (W := fun t => q.2.2 10 (a + t) &&& q.2.2 r' (f + t)) hA hM h5 (fun t t1 t2 => by
    rw [bt_255, eq10, eqr, ep, hA.1 _ t2, hw t (by omega), pu_and2])
  refine ⟨_, _, _, (pl_r h1).trans (pl_l ha hf hn hr h3 p), (pm_r h2).trans ((pm_l ha hf' hn' hr' h3 q).trans (by rw [RP_d h5.2.1])), po_r h2 h4 (po_l ha hf' hn' h3 q), hW, ?_⟩
  intro j hj
  rw [gAs, wr_out (by omega), ep]
