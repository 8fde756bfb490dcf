/-! An erase. -/
theorem er_r {v m : Int32} {x p : mm_S} (h : e_bnw 64 (mm_setI x 14 (x.1 14 + 1)) = (m, p)) : e_erase v x = l_erase_19 (mm_fu 0 m) v m 0 p := by
  unfold e_erase
  dsimp only
  rw [h]
theorem em_r {v m : Int32} {y q : mm_S} (h : e_m_goes 64 (cY y 1) = (m, q)) : e_m_erased v y = l_m_erased_19 (mm_fu 0 m) v m 0 q := by
  have h' : e_m_goes 64 (mm_setA y 13 (upd (y.2.2 13) (Int32.toNatClampNeg 1) (y.2.2 13 (Int32.toNatClampNeg 1) + 1))) = (m, q) := h
  unfold e_m_erased
  dsimp only
  rw [h']
theorem eo_r {v m : Int32} {y q : mm_S} (h : e_m_goes 64 (cY y 1) = (m, q)) (h1 : ok_m_goes 64 (cY y 1)) (h2 : okl_m_erased_19 (mm_fu 0 m) v m 0 q) : ok_m_erased v y := by
  have h' : e_m_goes 64 (mm_setA y 13 (upd (y.2.2 13) (Int32.toNatClampNeg 1) (y.2.2 13 (Int32.toNatClampNeg 1) + 1))) = (m, q) := h
  have h1' : ok_m_goes 64 (mm_setA y 13 (upd (y.2.2 13) (Int32.toNatClampNeg 1) (y.2.2 13 (Int32.toNatClampNeg 1) + 1))) := h1
  unfold ok_m_erased
  dsimp only
  rw [h']
  exact ⟨vi 1 7 (by decide) (by decide), vi 1 7 (by decide) (by decide), h1', h2⟩
theorem RC_1 {x y : mm_S} (h : RC x y) : RC (mm_setI x 14 (x.1 14 + 1)) (cY y 1) := by
  obtain ⟨h1, h2, h3, h4, h5, h6, h7⟩ := h
  exact ⟨h1, (by show y.2.2 13 1 + 1 = x.1 14 + 1; rw [h2]), h3, h4, h5, h6, h7⟩
theorem RP_d {p q : mm_S} (h : RP p q) : (if q.1 100 = 0 then (1 : Int32) else 0) = if p.1 12 = 0 then 1 else 0 := by
  rw [h.1]
theorem er_q {x y : mm_S} {s : Nat} (hA : RA x y) (hC : RC x y) (hM : RM x y) (hP : RP x y) (h12 : x.1 12 = 0) (hs : s < 64) : ∃ (b : Int32) (p q : mm_S), e_erase (nI s) x = (b, p) ∧ e_m_erased (nI s) y = (b, q) ∧ ok_m_erased (nI s) y ∧ WW x y p q b ∧ ∀ j, j < 64 * s ∨ 64 * s + 64 ≤ j → p.2.2 1 j = x.2.2 1 j := by
  obtain ⟨m, p, q, h1, h2, h3, h4, h5⟩ := w1 (x := mm_setI x 14 (x.1 14 + 1)) (y := cY y 1) (n := 64) (Or.inl rfl) (RC_1 hC) (RP_c hP rfl rfl rfl rfl rfl rfl) h12
  have hA' : RA (mm_setI x 14 (x.1 14 + 1)) (cY y 1) := RA_c hA rfl rfl rfl rfl rfl rfl
  have hM' : RM (mm_setI x 14 (x.1 14 + 1)) (cY y 1) := RM_c hM rfl rfl rfl rfl rfl rfl rfl rfl rfl rfl
  have hW := WB_W (a := 64 * s) (m := m) (V := fun _ => bt 255) (W := fun _ => 255) hA' hM' h5 (fun t _ _ => by rw [bt_255]; rfl)
  refine ⟨_, _, _, (er_r h1).trans (er_l hs h3 p), (em_r h2).trans ((em_l hs h3 q).trans (by rw [RP_d h5.2.1])), eo_r h2 h4 (eo_l hs h3 q), ?_, ?_⟩
  · obtain ⟨b1, b2, b3, b4, b5, b6, b7, b8, b9, b10, b11⟩ := hW
    refine ⟨b1, b2, b3, b4, b5, fun r r1 r2 r3 r4 => (b6 r r1 r2 r3 r4).trans (upd_n r4), b7, b8, fun r r1 r2 => (b9 r r1 r2).trans (gAn r2), b10, b11⟩
  · intro j hj
    rw [gAs, wr_out (by omega), show p.2.2 = x.2.2 from by rw [h5.2.2.1]; rfl]
