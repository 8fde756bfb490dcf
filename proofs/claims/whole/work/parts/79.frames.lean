/-! The reference leaves the class's registers as they are. -/
def FR (x y : mm_S) : Prop := (∀ r, r < 100 → y.1 r = x.1 r) ∧ (∀ r, r < 10 → y.2.1 r = x.2.1 r) ∧ (∀ r, r < 10 → y.2.2 r = x.2.2 r)
theorem FR_r (x : mm_S) : FR x x := ⟨fun _ _ => rfl, fun _ _ => rfl, fun _ _ => rfl⟩
theorem FR_t {x y z : mm_S} (h : FR x y) (h' : FR y z) : FR x z := ⟨fun r hr => (h'.1 r hr).trans (h.1 r hr), fun r hr => (h'.2.1 r hr).trans (h.2.1 r hr), fun r hr => (h'.2.2 r hr).trans (h.2.2 r hr)⟩
theorem FR_I {x y : mm_S} {r : Nat} {v : Int32} (hr : 100 ≤ r) (h : FR x y) : FR x (mm_setI y r v) := ⟨fun s hs => (upd_n (by omega)).trans (h.1 s hs), h.2.1, h.2.2⟩
theorem FR_A {x y : mm_S} {r : Nat} {f : Nat → Int32} (hr : 10 ≤ r) (h : FR x y) : FR x (mm_setA y r f) := ⟨h.1, h.2.1, fun s hs => (gAn (by omega)).trans (h.2.2 s hs)⟩
theorem fr_goes (v : Int32) (x : mm_S) : FR x (e_m_goes v x).2 := by
  unfold e_m_goes
  dsimp only
  split
  · split
    · exact FR_I (by decide) (FR_I (by decide) (FR_I (by decide) (FR_I (by decide) (FR_I (by decide) (FR_I (by decide) (FR_I (by decide) (FR_A (by decide) (FR_r x))))))))
    · exact FR_I (by decide) (FR_I (by decide) (FR_I (by decide) (FR_I (by decide) (FR_I (by decide) (FR_I (by decide) (FR_I (by decide) (FR_A (by decide) (FR_r x))))))))
  · split
    · exact FR_I (by decide) (FR_A (by decide) (FR_r x))
    · exact FR_I (by decide) (FR_A (by decide) (FR_r x))
theorem fr_er (k : Nat) : ∀ (u1 u2 u3 : Int32) (x : mm_S), FR x (l_m_erased_19 k u1 u2 u3 x).2 := by
  induction k with
  | zero => intro u1 u2 u3 x; exact FR_r x
  | succ k ih =>
    intro u1 u2 u3 x
    rw [em_s]
    split
    · split <;> exact FR_r x
    · exact FR_t (FR_A (by decide) (FR_r x)) (ih _ _ _ _)
theorem fr_erased (v : Int32) (x : mm_S) : FR x (e_m_erased v x).2 := by
  unfold e_m_erased
  exact FR_t (FR_A (by decide) (FR_r x)) (FR_t (fr_goes _ _) (fr_er _ _ _ _ _))
theorem fr_pr (k n r : Nat) : ∀ (u1 u3 u4 u5 : Int32) (x : mm_S), FR x (l_m_programmed_11 k n r u1 u3 u4 u5 x).2 := by
  induction k with
  | zero => intro u1 u3 u4 u5 x; exact FR_r x
  | succ k ih =>
    intro u1 u3 u4 u5 x
    rw [pm_s]
    split
    · split <;> exact FR_r x
    · exact FR_t (FR_A (by decide) (FR_r x)) (ih _ _ _ _ _)
theorem fr_programmed (v w : Int32) (n r : Nat) (x : mm_S) : FR x (e_m_programmed v n r w x).2 := by
  unfold e_m_programmed
  exact FR_t (fr_goes _ _) (fr_pr _ _ _ _ _ _ _ _)
theorem fr_E1 (u : Int32) (x : mm_S) : FR x (aE1 u x).2 := by
  have h1 := fr_erased ((1 : Int32) - u) x
  unfold aE1
  dsimp only
  generalize e_m_erased ((1 : Int32) - u) x = q at h1 ⊢
  have h2 := fr_programmed ((64 : Int32) * ((1 : Int32) - u)) 0 16 15 q.2
  generalize e_m_programmed ((64 : Int32) * ((1 : Int32) - u)) 16 15 0 q.2 = p at h2 ⊢
  split
  · exact h1
  · split
    · exact FR_t h1 h2
    · exact FR_A (by decide) (FR_t h1 h2)
theorem fr_E2 (u : Int32) (x : mm_S) : FR x (aE2 u x).2 := by
  have h2 := fr_programmed u 0 16 15 x
  unfold aE2
  dsimp only
  generalize e_m_programmed u 16 15 0 x = p at h2 ⊢
  split
  · exact h2
  · exact FR_A (by decide) h2
theorem fr_al (k : Nat) : ∀ (u8 u9 : Int32) (x : mm_S), FR x (l_m_appended_145 k u8 u9 x).2 := by
  induction k with
  | zero => intro u8 u9 x; exact FR_r x
  | succ k ih =>
    intro u8 u9 x
    rw [al_s]
    have h1 := fr_E1 u8 x
    have h2 := fr_E2 u9 x
    have h3 := ih u8 (u9 + 16) x
    generalize aE1 u8 x = p1 at h1 ⊢
    generalize aE2 u9 x = p2 at h2 ⊢
    generalize l_m_appended_145 k u8 (u9 + 16) x = p3 at h3 ⊢
    split
    · split
      · exact h1
      · exact h2
    · split
      · exact h3
      · split
        · exact h1
        · exact h2
theorem fr_line (s c : Int64) (a t r v : Int32) (x : mm_S) : FR x (e_m_lineIs s a t r v c x) := by
  rw [ln_m]
  exact FR_A (by decide) (FR_r x)
theorem fr_la (k : Nat) (u8 u9 : Int32) (s c : Int64) (a t r v : Int32) (x : mm_S) : FR x (l_m_appended_145 k u8 u9 (e_m_lineIs s a t r v c x)).2 := FR_t (fr_line s c a t r v x) (fr_al k u8 u9 _)
theorem fr_apg (p q : Int32 × mm_S) (x : mm_S) (h : p = q) (hq : FR x q.2) : FR x p.2 := by
  rw [h]
  exact hq
theorem fr_appended (a t r v : Int32) (c : Int64) (x : mm_S) : FR x (e_m_appended a t r v c x).2 := by
  have h : ∀ (k : Nat) (u8 u9 : Int32) (s c : Int64) (a t r v : Int32), FR x (l_m_appended_145 k u8 u9 (e_m_lineIs s a t r v c x)).2 := fun k u8 u9 s c a t r v => fr_la k u8 u9 s c a t r v x
  obtain ⟨g, hg⟩ : ∃ g : Nat → Int32 → Int32 → mm_S → Int32 × mm_S, l_m_appended_145 = g := ⟨_, rfl⟩
  obtain ⟨li, hli⟩ : ∃ li : Int64 → Int32 → Int32 → Int32 → Int32 → Int64 → mm_S → mm_S, e_m_lineIs = li := ⟨_, rfl⟩
  rw [hg, hli] at h
  unfold e_m_appended
  dsimp only
  rw [hg, hli]
  split <;> split <;> split <;> split <;> split <;> exact h _ _ _ _ _ _ _ _ _
theorem fr_header (a b c : Int32) (d : Int64) (x : mm_S) : FR x (e_m_header a b c d x) := by
  rw [hc_m]
  exact FR_A (by decide) (FR_r x)
theorem fr_make (a b c d : Int32) (x : mm_S) : FR x (e_m_make a b c d x).2 := by
  unfold e_m_make
  split
  · exact FR_r x
  · split
    · exact FR_r x
    · exact FR_I (by decide) (FR_I (by decide) (FR_I (by decide) (FR_I (by decide) (FR_r x))))
theorem fr_109 (u : Int32) (x : mm_S) : FR x (l_m_pack_109 (mm_fu 0 64) u 0 x).2 := by
  rw [p109_l]
  exact FR_I (by decide) (FR_A (by decide) (FR_r x))
theorem fr_46 (k : Nat) : ∀ (u1 : Int32) (u2 : Int64) (u4 : Int32) (x : mm_S), FR x (l_m_pack_46 k u1 u2 u4 x).2 := by
  induction k with
  | zero => intro u1 u2 u4 x; exact FR_r x
  | succ k ih =>
    intro u1 u2 u4 x
    rw [p46_s]
    have h1 := fr_header (x.1 108) (x.1 109) (x.1 110) u2 x
    have h2 := fr_109 u1 (e_m_header (x.1 108) (x.1 109) (x.1 110) u2 x)
    have h3 := ih u1 (t_m_pack_58 (mm_fu 0 64) u1 u2 u4 0 x) (u4 + 1) x
    generalize l_m_pack_46 k u1 (t_m_pack_58 (mm_fu 0 64) u1 u2 u4 0 x) (u4 + 1) x = p3 at h3 ⊢
    generalize e_m_header (x.1 108) (x.1 109) (x.1 110) u2 x = y at h1 h2 ⊢
    generalize l_m_pack_109 (mm_fu 0 64) u1 0 y = p2 at h2 ⊢
    split
    · exact FR_t h1 h2
    · exact h3
theorem fr_pack (v : Int32) (x : mm_S) : FR x (e_m_pack v x).2 := by
  unfold e_m_pack
  dsimp only
  have h1 := fr_46 (mm_fu 0 (x.1 109)) v ((Int32.toInt64 (x.1 108)) &&& (4294967295 : Int64)) 0 x
  have h2 := fr_109 v x
  generalize l_m_pack_46 (mm_fu 0 (x.1 109)) v ((Int32.toInt64 (x.1 108)) &&& (4294967295 : Int64)) 0 x = p1 at h1 ⊢
  generalize l_m_pack_109 (mm_fu 0 64) v 0 x = p2 at h2 ⊢
  split
  · exact FR_r x
  · split
    · exact FR_r x
    · split
      · exact h1
      · exact h2
theorem fr_alter (v w : Int32) (x : mm_S) : FR x (e_m_alter v w x).2 := by
  unfold e_m_alter
  split
  · exact FR_r x
  · exact FR_A (by decide) (FR_r x)
theorem fr_offer (x : mm_S) : FR x (e_m_offer x).2 := by
  unfold e_m_offer
  dsimp only
  have h0 : FR x (mm_setI x 105 0) := FR_I (by decide) (FR_r x)
  generalize mm_setI x 105 0 = y at h0 ⊢
  generalize e_m_otherOf (e_m_activeSlot y) y = o
  have h1 := fr_erased ((e_m_headOf o y) / 64) y
  generalize e_m_erased ((e_m_headOf o y) / 64) y = q at h1 ⊢
  rw [mo_l2]
  have h2 : FR y (o, mm_setI (mm_setI (mm_setA q.2 12 (wr (q.2.2.2 12) 0 64 (q.2.2.2 11))) 106 o) 107 0).2 := FR_I (by decide) (FR_I (by decide) (FR_A (by decide) h1))
  generalize (o, mm_setI (mm_setI (mm_setA q.2 12 (wr (q.2.2.2 12) 0 64 (q.2.2.2 11))) 106 o) 107 0) = p at h2 ⊢
  generalize e_m_isRight 64 11 0 y = g1
  generalize lg_cmp (e_m_read 64 11 4 4 y) (e_m_counter y) = g2
  generalize e_m_newest x = g3
  split
  · split
    · exact FR_r x
    · split
      · split
        · exact FR_r x
        · split
          · split
            · exact h0
            · split
              · split
                · exact FR_t h0 h1
                · exact FR_t h0 h2
              · exact h0
          · exact h0
      · exact FR_r x
  · exact FR_r x
theorem fr_b89 (k : Nat) : ∀ (u2 u3 : Int32) (x : mm_S), FR x (l_m_block_89 k u2 u3 x).2 := by
  induction k with
  | zero => intro u2 u3 x; exact FR_r x
  | succ k ih =>
    intro u2 u3 x
    have hf := fr_programmed (u2 + u3) u3 64 11 x
    obtain ⟨b, q, e⟩ : ∃ b q, e_m_programmed (u2 + u3) 64 11 u3 x = (b, q) := ⟨_, _, rfl⟩
    rw [e] at hf
    rw [mb_s e]
    have h3 := ih u2 (u3 + 16) q
    generalize l_m_block_89 k u2 (u3 + 16) q = p3 at h3 ⊢
    have h4 : FR x (bE x).2 := FR_I (by decide) (FR_r x)
    generalize bE x = p4 at h4 ⊢
    split
    · exact h4
    · split
      · exact hf
      · exact FR_t hf h3
theorem fr_block (x : mm_S) : FR x (e_m_block x).2 := by
  unfold e_m_block
  dsimp only
  have h0 : FR x (mm_setI x 105 0) := FR_I (by decide) (FR_r x)
  generalize mm_setI x 105 0 = y at h0 ⊢
  generalize (e_m_headOf (y.1 106) y) + ((64 : Int32) * ((1 : Int32) + (y.1 107))) = o
  have h1 := fr_erased (o / 64) y
  generalize e_m_erased (o / 64) y = q at h1 ⊢
  have h2 := fr_b89 (mm_fu 0 64) o 0 q.2
  generalize l_m_block_89 (mm_fu 0 64) o 0 q.2 = p at h2 ⊢
  generalize e_m_awaited x = g
  split
  · split
    · exact FR_r x
    · split
      · exact FR_r x
      · split
        · split
          · exact FR_t h0 h1
          · exact FR_t (FR_t h0 h1) h2
        · exact h0
  · exact FR_r x
theorem fr_fE (u : Int32) (x : mm_S) : FR x (fE u x).2 := by
  have h := fr_appended (-2) u 3 (-2) (-2) x
  unfold fE
  dsimp only
  generalize e_m_appended (-2) u 3 (-2) (-2) x = q at h ⊢
  split
  · exact h
  · exact FR_A (by decide) (FR_I (by decide) h)
theorem fr_f77 (k : Nat) : ∀ (u1 u2 : Int32) (x : mm_S), FR x (l_m_finish_77 k u1 u2 x).2 := by
  induction k with
  | zero => intro u1 u2 x; exact FR_r x
  | succ k ih =>
    intro u1 u2 x
    have hf := fr_programmed ((e_m_headOf u1 x) + u2) u2 64 12 x
    obtain ⟨b, q, e⟩ : ∃ b q, e_m_programmed ((e_m_headOf u1 x) + u2) 64 12 u2 x = (b, q) := ⟨_, _, rfl⟩
    rw [e] at hf
    rw [mf_s e]
    have h3 := ih u1 (u2 + 16) q
    generalize l_m_finish_77 k u1 (u2 + 16) q = p3 at h3 ⊢
    have h4 := fr_fE u1 x
    generalize fE u1 x = p4 at h4 ⊢
    split
    · exact h4
    · split
      · exact hf
      · exact FR_t hf h3
theorem fr_finish (x : mm_S) : FR x (e_m_finish x).2 := by
  unfold e_m_finish
  dsimp only
  have h1 := fr_f77 (mm_fu 0 64) (x.1 106) 0 x
  generalize l_m_finish_77 (mm_fu 0 64) (x.1 106) 0 x = p at h1 ⊢
  generalize e_m_awaited x = g
  generalize e_m_newest x = g2
  generalize lg_cmp (e_m_bodyOf (x.1 106) 64 12 0 x) (e_m_read 64 12 20 8 x) = g3
  split
  · split
    · exact FR_r x
    · split
      · exact FR_r x
      · split
        · exact FR_r x
        · split
          · exact h1
          · exact FR_I (by decide) (FR_r x)
  · exact FR_r x
theorem fr_139 (x : mm_S) : FR x (l_m_booted_139 1 x).2 := by
  rw [l_m_booted_139]
  dsimp only
  generalize e_m_activeSlot x = a
  generalize e_m_isGood a x = g1
  generalize e_m_otherOf a x = o
  generalize e_m_isGood o x = g2
  have h := fr_appended o (-2) (-2) (-2) (-2) x
  generalize e_m_appended o (-2) (-2) (-2) (-2) x = q at h ⊢
  generalize e_m_otherOf a q.2 = o2
  split
  · split
    · exact FR_r x
    · split
      · exact h
      · exact FR_I (by decide) h
  · exact FR_I (by decide) (FR_r x)
theorem fr_112 (u : Int32) (x : mm_S) : FR x (l_m_booted_112 1 u x).2 := by
  rw [l_m_booted_112]
  dsimp only
  have h := fr_appended (-2) 255 0 (-2) (-2) x
  generalize e_m_appended (-2) 255 0 (-2) (-2) x = q at h ⊢
  have h1 := fr_139 x
  have h2 := fr_139 q.2
  generalize l_m_booted_139 1 x = p1 at h1 ⊢
  generalize l_m_booted_139 1 q.2 = p2 at h2 ⊢
  split
  · exact h1
  · split
    · exact h
    · exact FR_t h h2
theorem fr_mT (x : mm_S) : FR x (mT x).2 := by
  unfold mT
  generalize e_m_newest x = n
  generalize x.2.2 10 (Int32.toNatClampNeg (n + 5)) = a
  generalize x.2.2 10 (Int32.toNatClampNeg (n + 6)) = b
  generalize e_m_isGood a x = g
  have h := fr_appended (-2) (-2) (b - 1) (-2) (-2) x
  generalize e_m_appended (-2) (-2) (b - 1) (-2) (-2) x = q at h ⊢
  have h1 := fr_112 a x
  generalize l_m_booted_112 1 a x = p at h1 ⊢
  split
  · exact FR_r x
  · split
    · exact h1
    · split
      · exact h1
      · split
        · exact h
        · exact FR_A (by decide) (FR_I (by decide) (FR_I (by decide) h))
theorem fr_booted (x : mm_S) : FR x (e_m_booted x).2 := by
  rw [mb_r]
  have h : FR x (m4 x) := FR_I (by decide) (FR_I (by decide) (FR_I (by decide) (FR_A (by decide) (FR_r x))))
  exact FR_t h (fr_mT (m4 x))
theorem fr_boot (x : mm_S) : FR x (e_m_boot x).2 := by
  unfold e_m_boot
  dsimp only
  have h := fr_booted x
  generalize e_m_booted x = q at h ⊢
  split
  · split
    · exact h
    · exact h
  · exact FR_r x
theorem fr_confirm (x : mm_S) : FR x (e_m_confirm x).2 := by
  unfold e_m_confirm
  dsimp only
  generalize e_m_read 4096 10 ((e_m_headOf (x.1 103) x) + 4) 4 x = y1
  generalize e_m_counter x = y2
  generalize e_m_newest x = g
  have h := fr_appended (x.1 103) 255 0 (-2) y2 x
  have h' := fr_appended (x.1 103) 255 0 (-2) y1 x
  generalize e_m_appended (x.1 103) 255 0 (-2) y2 x = q at h ⊢
  generalize e_m_appended (x.1 103) 255 0 (-2) y1 x = q' at h' ⊢
  split
  · split
    · exact FR_r x
    · split
      · exact FR_r x
      · split
        · split
          · exact h
          · exact FR_I (by decide) h
        · split
          · exact h'
          · exact FR_I (by decide) h'
  · exact FR_r x
theorem fr_t29 (k : Nat) : ∀ (u1 u2 u3 : Int32) (x : mm_S), FR x (l_m_tick_29 k u1 u2 u3 x).2 := by
  induction k with
  | zero => intro u1 u2 u3 x; exact FR_r x
  | succ k ih =>
    intro u1 u2 u3 x
    rw [l_m_tick_29]
    dsimp only
    have a0 : FR x (mm_setI x 104 (x.1 104 - 1)) := FR_I (by decide) (FR_r x)
    generalize mm_setI x 104 (x.1 104 - 1) = y at a0 ⊢
    have a1 : FR y (mm_setA y 13 (upd (y.2.2 13) (Int32.toNatClampNeg 5) (y.2.2 13 (Int32.toNatClampNeg 5) + 1))) := FR_A (by decide) (FR_r y)
    generalize mm_setA y 13 (upd (y.2.2 13) (Int32.toNatClampNeg 5) (y.2.2 13 (Int32.toNatClampNeg 5) + 1)) = z at a1 ⊢
    have a2 := fr_booted z
    generalize e_m_booted z = q at a2 ⊢
    have b1 := ih u1 u2 (u3 + 1) x
    have b2 := ih u1 (u2 + 1) (u3 + 1) q.2
    have b3 := ih u1 u2 (u3 + 1) y
    generalize l_m_tick_29 k u1 u2 (u3 + 1) x = p1 at b1 ⊢
    generalize l_m_tick_29 k u1 (u2 + 1) (u3 + 1) q.2 = p2 at b2 ⊢
    generalize l_m_tick_29 k u1 u2 (u3 + 1) y = p3 at b3 ⊢
    split
    · exact FR_r x
    · split
      · exact b1
      · split
        · split
          · exact FR_t a0 (FR_t a1 a2)
          · exact FR_t (FR_t a0 (FR_t a1 a2)) b2
        · exact FR_t a0 b3
theorem fr_tick (v : Int32) (x : mm_S) : FR x (e_m_tick v x).2 := by
  unfold e_m_tick
  have h := fr_t29 (mm_fu 0 v) v 0 0 x
  generalize l_m_tick_29 (mm_fu 0 v) v 0 0 x = p at h ⊢
  split
  · split
    · exact FR_r x
    · exact h
  · exact FR_r x
theorem fr_revoke (v : Int32) (x : mm_S) : FR x (e_m_revoke v x).2 := by
  unfold e_m_revoke
  dsimp only
  generalize e_m_newest x = n
  generalize x.2.2 10 (Int32.toNatClampNeg (n + 7)) = b
  have h := fr_appended (-2) (-2) (-2) (b ||| ((1 : Int32) <<< (v &&& 31))) (-2) x
  generalize e_m_appended (-2) (-2) (-2) (b ||| ((1 : Int32) <<< (v &&& 31))) (-2) x = q at h ⊢
  split
  · split
    · exact FR_r x
    · split
      · exact FR_r x
      · split
        · split
          · split
            · exact FR_r x
            · split
              · split
                · exact FR_r x
                · split
                  · exact FR_r x
                  · split
                    · exact h
                    · exact h
              · exact FR_r x
          · exact FR_r x
        · exact FR_r x
  · exact FR_r x
theorem fr_cut (v w : Int32) (x : mm_S) : FR x (e_m_cut v w x).2 := by
  unfold e_m_cut
  split
  · split
    · exact FR_r x
    · split
      · exact FR_r x
      · exact FR_I (by decide) (FR_I (by decide) (FR_r x))
  · exact FR_r x
theorem fr_start (x : mm_S) : FR x (e_m_start x).2 := by
  unfold e_m_start
  split
  · exact FR_r x
  · exact FR_I (by decide) (FR_I (by decide) (FR_r x))
theorem fr_rot (v w u : Int32) (x : mm_S) : FR x (e_m_rot v w u x).2 := by
  unfold e_m_rot
  split
  · exact FR_r x
  · exact FR_A (by decide) (FR_r x)
/-! Class and reference registers in one file: what a call of each does to the relation. -/
def CQ (x y : mm_S) : Prop := (∀ r, r < 100 → y.1 r = x.1 r) ∧ (∀ r, r < 10 → y.2.1 r = x.2.1 r) ∧ (∀ r, r < 10 → y.2.2 r = x.2.2 r)
def RQ (x y : mm_S) : Prop := (∀ r, 100 ≤ r → y.1 r = x.1 r) ∧ (∀ r, 10 ≤ r → y.2.1 r = x.2.1 r) ∧ (∀ r, 10 ≤ r → y.2.2 r = x.2.2 r)
theorem R_move {x y x' y' : mm_S} (h : R x y) (c : FR x x') (d : RQ y y') : R x' y' := by
  obtain ⟨hA, hC, hM, hP, hV, hL⟩ := h
  obtain ⟨c1, c2, c3⟩ := c
  obtain ⟨d1, d2, d3⟩ := d
  exact ⟨RA_c hA (c3 1 (by decide)) (c3 0 (by decide)) (c3 4 (by decide)) (d3 10 (by decide)) (d3 11 (by decide)) (d3 12 (by decide)), RC_c hC (d3 13 (by decide)) (c1 13 (by decide)) (c1 14 (by decide)) (c1 20 (by decide)) (c1 5 (by decide)) (c1 6 (by decide)) (c1 7 (by decide)) (c1 8 (by decide)), RM_c hM (c1 30 (by decide)) (c1 31 (by decide)) (c1 32 (by decide)) (c1 33 (by decide)) (c2 0 (by decide)) (d1 108 (by decide)) (d1 109 (by decide)) (d1 110 (by decide)) (d1 111 (by decide)) (d2 10 (by decide)), RP_c hP (c1 12 (by decide)) (c1 10 (by decide)) (c1 11 (by decide)) (d1 100 (by decide)) (d1 101 (by decide)) (d1 102 (by decide)), RV_c hV (c1 0 (by decide)) (c1 1 (by decide)) (c1 2 (by decide)) (c1 3 (by decide)) (c1 4 (by decide)) (d1 103 (by decide)) (d1 104 (by decide)) (d1 105 (by decide)) (d1 106 (by decide)) (d1 107 (by decide)) (d3 12 (by decide)), LG_cx hL (c3 1 (by decide)) (c1 21 (by decide)) (c1 22 (by decide)) (c1 23 (by decide)) (c1 24 (by decide)) (c1 25 (by decide)) (c1 26 (by decide)) (c1 27 (by decide))⟩
theorem mg_C (x' x : mm_S) : FR x' (mm_mrg x' x) := ⟨fun _ h => if_pos h, fun _ h => if_pos h, fun _ h => if_pos h⟩
theorem mg_R (x' x : mm_S) : RQ x (mm_mrg x' x) := ⟨fun _ h => if_neg (by omega), fun _ h => if_neg (by omega), fun _ h => if_neg (by omega)⟩
theorem RQ_r (x : mm_S) : RQ x x := ⟨fun _ _ => rfl, fun _ _ => rfl, fun _ _ => rfl⟩
