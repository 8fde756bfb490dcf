/-! The law's method cell; what the law knows at its entry. -/
def cel (L : Nat) (xs : Nat → Int32) (k : Nat) : Int32 := if k < L then xs k else 0
def ce_P (b L : Nat) (xs : Nat → Int32) (k sz : Nat) : Array Value → State → Prop := va_Pc [.ref b, .int (nI k)] (fun U => U.heap.size = sz ∧ va_X b L xs U U.heap ∧ b < sz)
theorem ce_blind {b L k sz : Nat} {xs : Nat → Int32} : FrameBlind (ce_P b L xs k sz) := by
  intro a U g mk q
  obtain ⟨q0, q1, qX, qb⟩ := q
  exact ⟨q0, q1, va_X.moved (u := U) (U := U.calling g mk a) (Vm.Alike.refl U.vm) qX, qb⟩
theorem va_A0 {sz b : Nat} (h : b < sz) : ¬ va_A [] sz b := by
  rintro (⟨k, e, h1⟩ | h1)
  · cases k <;> cases h1
  · exact absurd h1 (by omega)
set_option maxHeartbeats 4000000 in
set_option maxRecDepth 100000 in
theorem c_cell (l : Launch) (b L : Nat) (xs : Nat → Int32) (k sz : Nat) (hL : L ≤ 2563) (hk3 : k ≤ 3) : Met l y_LW_cell (Cond.code y_LW_cell b_LW_cell 2 (some .int) :: TB) { frames := 0, cells := 0, slots := 0, locals := 0 } (ce_P b L xs k sz) (va_Qi (fun r (_ : Unit) => r = cel L xs k) (fun _ _ => True) (va_A [] sz)) 0 0 (va_A [] sz) := by
  refine mm_ofW (cc := b_LW_cell) (maxL := 2) (ret := some .int) (by decide +kernel) rfl ?_
  intro p e s m args below meth c s₁ B hml hv
  obtain ⟨rfl, hsz, hX, hbl⟩ := hv
  have hx := B.exec
  have hb := B.bytes
  have hr := B.returns
  subst hsz
  have hbA := va_A0 hbl
  generalize va_A [] s.heap.size = A at hbA ⊢
  have hS : va_S A s.heap s.heap [] := va_S.rf
  have hl := lv_entry ([.ref b, .int (nI k)]) (n := 2) (Nat.le_of_ble_eq_true rfl)
  rw [lg_entry_eq]
  generalize (lg_sl ([.ref b, .int (nI k)]) ++ List.replicate (2 - (lg_sl ([.ref b, .int (nI k)])).length) Slot.unset).toArray = ls at hl ⊢
  have hl : lv_has ls 2 [(0, .ref b), (1, .int (nI k))] := hl
  refine lv_iload_n hx hb d_LW_cell_0 rfl (lv_at hl 1 rfl) ?_
  refine lv_aload_n hx hb d_LW_cell_1 rfl (lv_at hl 0 rfl) ?_
  refine va_slen hx hb hX hbl hbA hS d_LW_cell_2 ?_
  refine lv_icmp_ge (tgt := 12) hx hb d_LW_cell_3 (by decide) (fun c0 => ?_) (fun c0 => ?_)
  · have c1 : ¬ k < L := fun h => nI_ge (a := k) (b := L) h (by omega) c0
    refine lv_iconst hx hb d_LW_cell_12 ki_0 ?_
    exact W.zret hx hb hr rfl (fun t ht _ => ⟨⟨0, (), rfl, (if_neg c1).symm, trivial⟩, hS.F ht⟩) hS.2.2 d_LW_cell_13
  · have c1 : k < L := Nat.not_le.mp (fun h => c0 (nI_le (a := L) (b := k) h (by omega)))
    refine lv_aload_n hx hb d_LW_cell_6 rfl (lv_at hl 0 rfl) ?_
    refine lv_iload_n hx hb d_LW_cell_7 rfl (lv_at hl 1 rfl) ?_
    refine va_sld hx hb hX hbl hbA hS (nI_in c1 (by omega)) d_LW_cell_8 ?_
    refine lv_goto (tgt := 13) hx hb d_LW_cell_9 (by decide) ?_
    exact W.zret hx hb hr rfl (fun t ht _ => ⟨⟨_, (), rfl, by rw [nI_clamp (by omega)]; exact (if_pos c1).symm, trivial⟩, hS.F ht⟩) hS.2.2 d_LW_cell_13
theorem lw_nw {s : State} {args : Array Value} (hts : ∀ w ∈ lw_tbl, w.before args s = true) : mm_NW NW s := by
  intro w hw
  have h1 := (List.mem_filter.mp hw).2
  have h2 := hts w (List.mem_filter.mp hw).1
  revert h1 h2
  cases w <;> intro h1 h2 <;> first | exact va_Nw.of rfl h2 | cases h1
def ni_C (a0 a1 a2 a3 a4 a5 : ClassId) : Nat → ClassId := fun c => match c with
  | 0 => a0
  | 1 => a1
  | 2 => a2
  | 3 => a3
  | 4 => a4
  | _ => a5
def ni_I (a0 a1 a2 a3 a4 a5 : Nat → Nat) : Nat → Nat → Nat := fun c => match c with
  | 0 => a0
  | 1 => a1
  | 2 => a2
  | 3 => a3
  | 4 => a4
  | _ => a5
theorem ni_arr {s : State} {args : Array Value} {ty : FieldType} (h : (Cond.arrayClass ty).before args s = true) (hno : ∀ C, ty ≠ .object C) : ∃ cA : ClassId, ArrOfT s cA ty ∧ va_RA s cA ty := by
  obtain ⟨cA, kA, comp, h1, h2, h3⟩ := Cond.arrayClass_spec h
  refine ⟨cA, fun n z => ⟨fun k h => (by cases h), kA, h2, comp, h3⟩, ?_⟩
  cases ty with
  | object C => exact absurd rfl (hno C)
  | _ => exact h1
theorem lw_known {s : State} {args : Array Value} (hts : ∀ w ∈ TB, w.before args s = true) : ∃ (D : va_G) (tC : Nat → ClassId), va_K D CL (mm_tys tC) s := by
  obtain ⟨a0, b0, h0⟩ := u_known hts ww_TS (hts _ tn_TS)
  obtain ⟨a1, b1, h1⟩ := u_known hts ww_FL (hts _ tn_FL)
  obtain ⟨a2, b2, h2⟩ := u_known hts ww_LG (hts _ tn_LG)
  obtain ⟨a3, b3, h3⟩ := u_known hts ww_MK (hts _ tn_MK)
  obtain ⟨a4, b4, h4⟩ := u_known hts ww_HD (hts _ tn_HD)
  obtain ⟨a5, b5, h5⟩ := u_known hts ww_MO (hts _ tn_MO)
  obtain ⟨t0, g0⟩ := ni_arr (hts _ ta_byte) (fun C h => by cases h)
  obtain ⟨t1, g1⟩ := ni_arr (hts _ ta_int) (fun C h => by cases h)
  refine ⟨(ni_C a0 a1 a2 a3 a4 a5, ni_I b0 b1 b2 b3 b4 b5), fun k => match k with | 0 => t0 | _ => t1, fun c q hq => ?_, fun k q hq => ?_⟩
  · rcases c with _ | _ | _ | _ | _ | _ | c
    · cases hq; exact h0
    · cases hq; exact h1
    · cases hq; exact h2
    · cases hq; exact h3
    · cases hq; exact h4
    · cases hq; exact h5
    · cases hq
  · rcases k with _ | _ | k
    · cases hq; exact g0
    · cases hq; exact g1
    · cases hq
