/-! The law from its entry to its end. -/
def mm_rfs (N : Nat) (c : mm_E) : Bool := match c with
  | .inl _ => true
  | .inr o => o.2.all (fun d => d.1 != 0 || decide (d.2 < N))
theorem mm_fv_cg {ad ad' : Nat → Nat} {N : Nat} (h : ∀ j, j < N → ad' j = ad j) {x : mm_S} {d : Nat × Nat} (hd : (d.1 != 0 || decide (d.2 < N)) = true) : mm_cv ad' (mm_fv x d) = mm_cv ad (mm_fv x d) := by
  obtain ⟨a, i⟩ := d
  rcases a with _ | _ | _ | a
  · have hi : i < N := by simpa using hd
    show Value.ref (ad' i) = Value.ref (ad i)
    rw [h i hi]
  · rfl
  · rfl
  · rfl
theorem mm_W_cg {tC : Nat → ClassId} {ad ad' : Nat → Nat} {L : mm_L} {x : mm_S} {N : Nat} (h : ∀ j, j < N → ad' j = ad j) (hl : L.length ≤ N) (hr : L.all (mm_rfs N) = true) : mm_W tC ad' L x = mm_W tC ad L x := by
  apply List.ext_getElem?
  intro k
  rw [mm_W_get, mm_W_get]
  cases hk : L[k]? with
  | none => rfl
  | some c =>
    have hlt := (List.getElem?_eq_some_iff.mp hk).1
    have hc := List.all_eq_true.mp hr c (List.mem_of_getElem? hk)
    show some (ad' k, mm_cl tC ad' x c) = some (ad k, mm_cl tC ad x c)
    rw [h k (by omega)]
    cases c with
    | inl q => rfl
    | inr o =>
      have ho := List.all_eq_true.mp hc
      have e : o.2.map (fun d => mm_cv ad' (mm_fv x d)) = o.2.map (fun d => mm_cv ad (mm_fv x d)) := List.map_congr_left (fun d hd => mm_fv_cg h (ho d hd))
      simp only [mm_cl, e]
theorem lw_W (tC : Nat → ClassId) (u : Nat → Nat) (b : Nat) (x : mm_S) : mm_W tC (fun j => if j = 1000 then b else u j) LL x = mm_W tC u LL x := mm_W_cg (N := 18) (fun j hj => if_neg (by omega)) (by decide) (by decide)
set_option maxRecDepth 10000 in
theorem lw_h0 {n : Nat} {xs : Nat → Int32} {x : mm_S} (h : R x x) : ∃ m, mm_vc (G_LW n xs) LL 4 (some .boolean) code [50] (fun pc lv st x'' => st = [] ∧ ∃ (k : Nat) (lv' : mm_V), mm_all lv lv' ∧ ILW n k pc lv' x'') KLW m 48 [(2, .ref 11), (1, .ref 0), (0, .ref 1000)] [] x := by
  refine ⟨10, ?_⟩
  refine v_iconst d_LW_law_48 ki_3 ?_
  refine a_go (by decide) (v_istore_n d_LW_law_49 (by decide) ?_)
  exact a_cut (by decide) ⟨rfl, n + 3 - 3, [(0, .ref 1000), (1, .ref 0), (2, .ref 11), (3, .int (nI 3))], mm_all_c rfl (mm_all_c rfl (mm_all_c rfl (mm_all_c rfl mm_all_n))), rfl, 3, rfl, by omega, rfl, h⟩
set_option maxHeartbeats 4000000 in
set_option maxRecDepth 100000 in
theorem whole_start {p : Program} {e : Env} {s : State} {m : MethodId} {below : List Frame} {meth : Method} {c : Code} (l : Launch) {b L : Nat} {xs : Nat → Int32} (hL : L ≤ 2563) (C0 : lw_At p s m meth c b L xs) : W p l e room_1 s m #[Value.ref b] below meth c s.heap [] 0 0 (lw_Z below #[Value.ref b] s) (entryFrame m ([Value.ref b] : List Value).toArray 4) := by
  obtain ⟨hx, hb, hr, hml, hown, hts0, hX, hbl, hlocks, -⟩ := C0
  have hown : s.vm.findClass "TwoSlotsLaw" = some m.cls := hown
  have hts : ∀ w ∈ TB, w.before #[Value.ref b] s = true := fun w hw => hts0 w (List.mem_filter.mp hw).1
  have hNW : mm_NW NW s := lw_nw hts0
  obtain ⟨D, tC, hK⟩ := lw_known hts
  obtain ⟨A, hAe⟩ : ∃ A : Nat → Prop, A = fun q => s.heap.size ≤ q := ⟨_, rfl⟩
  have hA : ∀ q, s.heap.size ≤ q → A q := fun q h => by rw [hAe]; exact h
  have hA' : ∀ q, A q → s.heap.size ≤ q := fun q h => by rw [hAe] at h; exact h
  have hbA : ¬ A b := fun h => absurd (hA' b h) (by omega)
  have hS : va_S A s.heap s.heap [] := va_S.rf
  have hl := lv_entry ([.ref b]) (n := 4) (Nat.le_of_ble_eq_true rfl)
  rw [lg_entry_eq]
  generalize (lg_sl ([.ref b]) ++ List.replicate (4 - (lg_sl ([.ref b])).length) Slot.unset).toArray = ls at hl ⊢
  have hl : lv_has ls 4 [(0, .ref b)] := hl
  have hP : va_P D CL [] s.heap := fun k q h => by cases k <;> cases h
  have hD : va_D A [] := ⟨fun i j a q h => (by cases i <;> cases h), fun k q h => (by cases k <;> cases h)⟩
  refine va_new (ci := 0) (fs := [.long 0, .null, .null, .null, .null, .int 0, .null, .null, .int 0, .int 0, .int 0, .int 0, .int 0, .int 0, .int 0, .int 0]) (C := "TwoSlots") (T := F_TS) (N := 16) hx hb hts ww_TS t_TS tt_TS hown (hts _ tk_LW_7) (hts _ tn_TS) (hts _ ti_TS) hK hP hD hS hA rfl (fun j hj => by rcases (show j = 0 ∨ j = 1 ∨ j = 2 ∨ j = 3 ∨ j = 4 ∨ j = 5 ∨ j = 6 ∨ j = 7 ∨ j = 8 ∨ j = 9 ∨ j = 10 ∨ j = 11 ∨ j = 12 ∨ j = 13 ∨ j = 14 ∨ j = 15 by omega) with rfl | rfl | rfl | rfl | rfl | rfl | rfl | rfl | rfl | rfl | rfl | rfl | rfl | rfl | rfl | rfl <;> rfl) (Nat.le_of_ble_eq_true rfl) (Nat.le_of_ble_eq_true rfl) d_LW_law_0 (fun h0 H hP hD hS => ?_)
  have hP : va_P D CL [(h0, .inr (0, [.long 0, .null, .null, .null, .null, .int 0, .null, .null, .int 0, .int 0, .int 0, .int 0, .int 0, .int 0, .int 0, .int 0]))] H := hP
  have hD : va_D A [(h0, .inr (0, [.long 0, .null, .null, .null, .null, .int 0, .null, .null, .int 0, .int 0, .int 0, .int 0, .int 0, .int 0, .int 0, .int 0]))] := hD
  refine W.widen (k := 1) (n := 16) (Nat.le_refl _) (Nat.le_refl _) ?_
  refine lv_dup hx hb d_LW_law_3 rfl ?_
  refine lv_aload_n hx hb d_LW_law_4 rfl (lv_at hl 0 rfl) ?_
  refine lv_iconst (v := nI 0) hx hb d_LW_law_5 (by decide) ?_
  refine lw_cell (k := 0) hL (by decide) hx hb hml hown hts hX hbl hbA hA hl.1 (Nat.le_of_ble_eq_true rfl) ⟨Nat.le_of_ble_eq_true rfl, Nat.le_of_ble_eq_true rfl⟩ d_LW_law_6 hP hS (fun H locs hP hS => ?_)
  refine lv_aload_n hx hb d_LW_law_9 rfl (lv_at hl 0 rfl) ?_
  refine lv_iconst (v := nI 1) hx hb d_LW_law_10 (by decide) ?_
  refine lw_cell (k := 1) hL (by decide) hx hb hml hown hts hX hbl hbA hA hl.1 (Nat.le_of_ble_eq_true rfl) ⟨Nat.le_of_ble_eq_true rfl, Nat.le_of_ble_eq_true rfl⟩ d_LW_law_11 hP hS (fun H locs hP hS => ?_)
  refine lv_aload_n hx hb d_LW_law_14 rfl (lv_at hl 0 rfl) ?_
  refine lv_iconst (v := nI 2) hx hb d_LW_law_15 (by decide) ?_
  refine lw_cell (k := 2) hL (by decide) hx hb hml hown hts hX hbl hbA hA hl.1 (Nat.le_of_ble_eq_true rfl) ⟨Nat.le_of_ble_eq_true rfl, Nat.le_of_ble_eq_true rfl⟩ d_LW_law_16 hP hS (fun H locs hP hS => ?_)
  refine lv_i2l hx hb d_LW_law_19 rfl ?_
  generalize hv : cel L xs 0 = v
  generalize hn : cel L xs 1 = n
  generalize hk : Int32.toInt64 (cel L xs 2) = k
  have hFc := va_free (wc := [(h0, .inr (0, [.long 0, .null, .null, .null, .null, .int 0, .null, .null, .int 0, .int 0, .int 0, .int 0, .int 0, .int 0, .int 0, .int 0]))]) hD hS hA [0] rfl
  refine va_callv (va_runI (As := [.int v, .int n, .long k]) (rest := [.ref h0]) ⟨hx, hb, hml, hown, hts⟩ (c_TS_init l D tC h0 H.size v n k (ok_ts v n k (x0C k))) ⟨callB_of 3 hts (tb_goodc tc_TS_init) rfl rfl rfl (hts _ ti_TS) (hts _ tl_LW_15) (by decide +kernel) ⟨Nat.le_of_ble_eq_true rfl, Nat.le_of_ble_eq_true rfl⟩, rfl, hts _ tv_TS_init⟩ ⟨ci_blind, fun U hU hW => ⟨rfl, by rw [hU], by rw [hU]; exact hP, va_K.moved hW.alike hK, hD.weaken (fun _ _ _ _ => trivial), mm_NW_warm nw_nest hW hNW⟩⟩ rfl rfl hl.1 rfl (lv_room (Nat.le_of_ble_eq_true rfl)) d_LW_law_20 ⟨Nat.le_of_ble_eq_true rfl, Nat.le_of_ble_eq_true rfl⟩) hS (fun q _ h => hFc q h) hFc (fun u t H1 locs ht hvm hw hB hz1 hk1 hS => ?_)
  obtain ⟨hu0, hP, hDa⟩ := hB
  rw [ht] at hP
  have hP : va_P D CL (mm_W tC u LC (x1L v n k)) H1 := hP
  have hDa : mm_Da A u LC.length := ⟨hDa.1, fun j hj => hFc _ (hDa.2 j hj)⟩
  generalize H1 = H at hP hS ⊢
  have hD := mm_W_D tC LC (x1L v n k) hDa
  clear hFc hDa
  refine W.widen (k := 11) (n := 4342) (Nat.le_refl _) (Nat.le_refl _) ?_
  refine lv_astore_n hx hb d_LW_law_23 rfl hl (by decide) rfl (fun ls hl => ?_)
  have hl : lv_has ls 4 [(1, .ref h0), (0, .ref b)] := hl
  refine va_new (ci := 5) (fs := [.long 0, .null, .int 0, .int 0, .int 0, .int 0, .int 0, .null, .int 0, .null, .int 0, .int 0, .null, .int 0, .int 0, .int 0, .int 0, .null, .null]) (C := "TwoSlotsModel") (T := F_MO) (N := 19) hx hb hts ww_MO t_MO tt_MO hown (hts _ tk_LW_18) (hts _ tn_MO) (hts _ ti_MO) hK hP hD hS hA rfl (fun j hj => by rcases (show j = 0 ∨ j = 1 ∨ j = 2 ∨ j = 3 ∨ j = 4 ∨ j = 5 ∨ j = 6 ∨ j = 7 ∨ j = 8 ∨ j = 9 ∨ j = 10 ∨ j = 11 ∨ j = 12 ∨ j = 13 ∨ j = 14 ∨ j = 15 ∨ j = 16 ∨ j = 17 ∨ j = 18 by omega) with rfl | rfl | rfl | rfl | rfl | rfl | rfl | rfl | rfl | rfl | rfl | rfl | rfl | rfl | rfl | rfl | rfl | rfl | rfl <;> rfl) (Nat.le_of_ble_eq_true rfl) (Nat.le_of_ble_eq_true rfl) d_LW_law_24 (fun g0 H hP hD hS => ?_)
  refine W.widen (k := 12) (n := 4361) (Nat.le_refl _) (Nat.le_refl _) ?_
  refine lv_dup hx hb d_LW_law_27 rfl ?_
  refine lv_aload_n hx hb d_LW_law_28 rfl (lv_at hl 1 rfl) ?_
  refine lv_iconst (v := nI 0) hx hb d_LW_law_29 (by decide) ?_
  refine lw_cell (k := 0) hL (by decide) hx hb hml hown hts hX hbl hbA hA hl.1 (Nat.le_of_ble_eq_true rfl) ⟨Nat.le_of_ble_eq_true rfl, Nat.le_of_ble_eq_true rfl⟩ d_LW_law_30 hP hS (fun H locs hP hS => ?_)
  refine lv_aload_n hx hb d_LW_law_33 rfl (lv_at hl 1 rfl) ?_
  refine lv_iconst (v := nI 1) hx hb d_LW_law_34 (by decide) ?_
  refine lw_cell (k := 1) hL (by decide) hx hb hml hown hts hX hbl hbA hA hl.1 (Nat.le_of_ble_eq_true rfl) ⟨Nat.le_of_ble_eq_true rfl, Nat.le_of_ble_eq_true rfl⟩ d_LW_law_35 hP hS (fun H locs hP hS => ?_)
  refine lv_aload_n hx hb d_LW_law_38 rfl (lv_at hl 1 rfl) ?_
  refine lv_iconst (v := nI 2) hx hb d_LW_law_39 (by decide) ?_
  refine lw_cell (k := 2) hL (by decide) hx hb hml hown hts hX hbl hbA hA hl.1 (Nat.le_of_ble_eq_true rfl) ⟨Nat.le_of_ble_eq_true rfl, Nat.le_of_ble_eq_true rfl⟩ d_LW_law_40 hP hS (fun H locs hP hS => ?_)
  refine lv_i2l hx hb d_LW_law_43 rfl ?_
  rw [hv, hn, hk]
  have hFc : ∀ q, va_A (mm_W tC u LC (x1L v n k) ++ [(g0, .inr (5, [.long 0, .null, .int 0, .int 0, .int 0, .int 0, .int 0, .null, .int 0, .null, .int 0, .int 0, .null, .int 0, .int 0, .int 0, .int 0, .null, .null]))]) H.size q → A q := by
    rintro q (⟨j, a, h⟩ | h)
    · exact hD.2 j _ h
    · exact hA q (Nat.le_trans hS.1 h)
  refine va_callv (va_runI (As := [.int v, .int n, .long k]) (rest := [.ref g0]) ⟨hx, hb, hml, hown, hts⟩ (c_MO_init l D tC u (x1L v n k) g0 H.size v n k (ok_mo v n k _)) ⟨callB_of 3 hts (tb_goodc tc_MO_init) rfl rfl rfl (hts _ ti_MO) (hts _ tl_LW_20) (by decide +kernel) ⟨Nat.le_of_ble_eq_true rfl, Nat.le_of_ble_eq_true rfl⟩, rfl, hts _ tv_MO_init⟩ ⟨ci_blind, fun U hU hW => ⟨rfl, by rw [hU], by rw [hU]; exact hP, va_K.moved hW.alike hK, hD.weaken (fun _ _ _ _ => trivial), mm_NW_warm nw_nest hW hNW⟩⟩ rfl rfl hl.1 rfl (lv_room (Nat.le_of_ble_eq_true rfl)) d_LW_law_44 ⟨Nat.le_of_ble_eq_true rfl, Nat.le_of_ble_eq_true rfl⟩) hS (fun q _ h => hFc q h) hFc (fun w t H1 locs ht hvm hw hB hz1 hk1 hS => ?_)
  obtain ⟨hw1, hw2, hP, hDa⟩ := hB
  rw [ht] at hP
  have hP : va_P D CL (mm_W tC w LL (x3L v n k)) H1 := hP
  have hDa : mm_Da A w 18 := ⟨hDa.1, fun j hj => hFc _ (hDa.2 j hj)⟩
  generalize H1 = H at hP hS ⊢
  clear hFc hD
  have hR := R_x3 v n k
  generalize x3L v n k = x3 at hP hR
  refine W.widen (k := 18) (n := 8672) (Nat.le_refl _) (Nat.le_refl _) ?_
  refine lv_astore_n hx hb d_LW_law_47 rfl hl (by decide) rfl (fun ls hl => ?_)
  have hl : lv_has ls 4 [(2, .ref g0), (1, .ref h0), (0, .ref b)] := hl
  rw [← lw_W tC w b x3] at hP
  obtain ⟨ad, had⟩ : ∃ ad : Nat → Nat, ad = fun j => if j = 1000 then b else w j := ⟨_, rfl⟩
  have ha0 : ad 0 = h0 := by
    rw [had]
    exact (hw1 0 (by decide)).trans hu0
  have ha1 : ad 11 = g0 := by
    rw [had]
    exact hw2
  have ha2 : ad 1000 = b := by
    rw [had]
    rfl
  have hDa : mm_Da A ad LL.length := by
    have h9 : ∀ j, j < 18 → ad j = w j := fun j hj => by
      rw [had]
      exact if_neg (by omega)
    refine ⟨fun i j hi hj he => ?_, fun j hj => ?_⟩
    · have hi : i < 18 := hi
      have hj : j < 18 := hj
      rw [h9 i hi, h9 j hj] at he
      exact hDa.1 i j hi hj he
    · have hj : j < 18 := hj
      rw [h9 j hj]
      exact hDa.2 j hj
  rw [← had] at hP
  have hl : lv_has ls 4 (([(2, .ref 11), (1, .ref 0), (0, .ref 1000)] : mm_V).map (mm_cq ad)) := by
    show lv_has ls 4 [(2, .ref (ad 11)), (1, .ref (ad 0)), (0, .ref (ad 1000))]
    rw [ha0, ha1, ha2]
    exact hl
  exact mm_tail (G := G_LW L xs) (rt := some .boolean) (K := KLW) (cs := [50]) (L := LL) (ad := ad) (tC := tC) (cl := CL) (D := D) (A := A) (Ts := TB) (own := "TwoSlotsLaw") (nL := 4) (cc := code) (H0 := s.heap) (st0 := []) hx hb hown hts hK hDa LL_u
    (fun idx q h => by cases h) (fun idx v h => by cases h) (fun idx v h => by cases h) (fun idx q h => by cases h)
    (fun idx q h => lw_ok (lw_cvs l L xs idx q h) hx hb hml hown hts hK hDa hA hNW ⟨Nat.le_of_ble_eq_true rfl, Nat.le_of_ble_eq_true rfl⟩)
    (fun H locs x pc ls v ty _ hS hd _ _ hk => by
      cases hk
      exact va_forget (fun q hq => hA' _ (hS.2.2 q hq)) (lw_ret hx hb hr hlocks hd))
    (fun H locs x pc ls v _ _ _ h => by cases h) (fun H locs x pc ls _ _ _ h => by cases h)
    (fun q h => by
      cases h
      rw [ha2]
      exact ⟨hX, hbl, hbA⟩)
    (ILW L) (lw_h1 hL) (lw_h0 hR) hP hS hl
