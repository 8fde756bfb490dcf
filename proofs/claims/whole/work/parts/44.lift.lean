/-! A contract over the first cells of a longer layout: the other registers stay. -/
def mm_mrg (x' x : mm_S) : mm_S := (fun r => if r < 100 then x'.1 r else x.1 r, fun r => if r < 10 then x'.2.1 r else x.2.1 r, fun r => if r < 10 then x'.2.2 r else x.2.2 r)
def mm_low (d : Nat × Nat) : Bool := if d.1 = 1 then decide (d.2 < 100) else if d.1 = 2 then decide (d.2 < 10) else true
def mm_high (d : Nat × Nat) : Bool := if d.1 = 1 then decide (¬ d.2 < 100) else if d.1 = 2 then decide (¬ d.2 < 10) else true
def mm_lows (c : mm_E) : Bool := match c with
  | .inl q => decide (q.2.2 < 10)
  | .inr o => o.2.all mm_low
def mm_highs (c : mm_E) : Bool := match c with
  | .inl q => decide (¬ q.2.2 < 10)
  | .inr o => o.2.all mm_high
theorem mm_mrg_lo {x' x : mm_S} {d : Nat × Nat} (h : mm_low d = true) : mm_fv (mm_mrg x' x) d = mm_fv x' d := by
  obtain ⟨a, b⟩ := d
  rcases a with _ | _ | _ | a
  · rfl
  · have hb : b < 100 := by simpa [mm_low] using h
    simp [mm_fv, mm_mrg, hb]
  · have hb : b < 10 := by simpa [mm_low] using h
    simp [mm_fv, mm_mrg, hb]
  · rfl
theorem mm_mrg_hi {x' x : mm_S} {d : Nat × Nat} (h : mm_high d = true) : mm_fv (mm_mrg x' x) d = mm_fv x d := by
  obtain ⟨a, b⟩ := d
  rcases a with _ | _ | _ | a
  · rfl
  · have hb : ¬ b < 100 := by simpa [mm_high] using h
    simp only [mm_fv, mm_mrg, if_neg hb]
  · have hb : ¬ b < 10 := by simpa [mm_high] using h
    simp only [mm_fv, mm_mrg, if_neg hb]
  · rfl
theorem mm_cl_lo {tC : Nat → ClassId} {ad : Nat → Nat} {x' x : mm_S} {c : mm_E} (h : mm_lows c = true) : mm_cl tC ad (mm_mrg x' x) c = mm_cl tC ad x' c := by
  cases c with
  | inl q =>
    have hb : q.2.2 < 10 := by simpa [mm_lows] using h
    simp [mm_cl, mm_mrg, hb]
  | inr o =>
    have hb := List.all_eq_true.mp h
    simp only [mm_cl]
    congr 2
    apply List.map_congr_left
    intro d hd
    rw [mm_mrg_lo (hb d hd)]
theorem mm_cl_hi {tC : Nat → ClassId} {ad : Nat → Nat} {x' x : mm_S} {c : mm_E} (h : mm_highs c = true) : mm_cl tC ad (mm_mrg x' x) c = mm_cl tC ad x c := by
  cases c with
  | inl q =>
    have hb : ¬ q.2.2 < 10 := by simpa [mm_highs] using h
    simp only [mm_cl, mm_mrg, if_neg hb]
  | inr o =>
    have hb := List.all_eq_true.mp h
    simp only [mm_cl]
    congr 2
    apply List.map_congr_left
    intro d hd
    rw [mm_mrg_hi (hb d hd)]
theorem mm_lift_P {D : va_G} {cl : List vw_C} {tC : Nat → ClassId} {ad : Nat → Nat} {L M : mm_L} {x x' : mm_S} {H H1 : Heap} (h1 : L.all mm_lows = true) (h2 : M.all mm_highs = true) (hd : ∀ i j, i < (L ++ M).length → j < (L ++ M).length → ad i = ad j → i = j) (hP : va_P D cl (mm_W tC ad (L ++ M) x) H) (hP1 : va_P D cl (mm_W tC ad L x') H1) (hk : ∀ q : Nat, q < H.size → ¬ va_A (mm_W tC ad L x) H.size q → H1[q]? = H[q]?) : va_P D cl (mm_W tC ad (L ++ M) (mm_mrg x' x)) H1 := by
  intro k q hq
  rw [mm_W_get] at hq
  cases hc : (L ++ M)[k]? with
  | none => rw [hc] at hq; cases hq
  | some c =>
    rw [hc] at hq
    cases hq
    have hlt := (List.getElem?_eq_some_iff.mp hc).1
    by_cases hkL : k < L.length
    · rw [List.getElem?_append_left hkL] at hc
      have hlow := List.all_eq_true.mp h1 c (List.mem_of_getElem? hc)
      have := hP1 k (ad k, mm_cl tC ad x' c) (by rw [mm_W_get, hc]; rfl)
      show va_at D cl (ad k, mm_cl tC ad (mm_mrg x' x) c) H1
      rw [mm_cl_lo hlow]
      exact this
    · have hc' := hc
      rw [List.getElem?_append_right (by omega)] at hc'
      have hhigh := List.all_eq_true.mp h2 c (List.mem_of_getElem? hc')
      have hold := hP k (ad k, mm_cl tC ad x c) (by rw [mm_W_get, hc]; rfl)
      show va_at D cl (ad k, mm_cl tC ad (mm_mrg x' x) c) H1
      rw [mm_cl_hi hhigh]
      refine hold.kept (hk (ad k) hold.lt ?_)
      rintro (⟨j, e, hj⟩ | hj)
      · rw [mm_W_get] at hj
        cases hcj : L[j]? with
        | none => rw [hcj] at hj; cases hj
        | some cj =>
          rw [hcj] at hj
          have hjl := (List.getElem?_eq_some_iff.mp hcj).1
          have e1 : ad j = ad k := congrArg Prod.fst (Option.some.inj hj)
          have := hd j k (by rw [List.length_append]; omega) hlt e1
          omega
      · have := hold.lt
        exact absurd hj (by show ¬ H.size ≤ ad k; simpa using this)
def mm_LS (S : mm_P) : mm_P := fun as x K => S as x (fun r x' => K r (mm_mrg x' x))
theorem mm_W_pre {tC : Nat → ClassId} {ad : Nat → Nat} {L M : mm_L} {x : mm_S} {k : Nat} {q : Nat × va_E} (h : (mm_W tC ad L x)[k]? = some q) : (mm_W tC ad (L ++ M) x)[k]? = some q := by
  rw [mm_W_get] at h ⊢
  cases hc : L[k]? with
  | none => rw [hc] at h; cases h
  | some c =>
    have hl := (List.getElem?_eq_some_iff.mp hc).1
    rw [List.getElem?_append_left hl, hc]
    rw [hc] at h
    exact h
section ML
variable {p : Program} {l : Launch} {e : Env} {R : Room} {s : State} {m : MethodId} {args : Array Value} {below : List Frame} {meth : Method} {c : Code} {cells slots : Nat} {Q : State → Prop} {cc : ByteArray} {D : va_G} {cl : List vw_C} {A : Nat → Prop} {H0 : Heap} {tC : Nat → ClassId} {ad : Nat → Nat} {L M : mm_L} {nL : Nat} {own : String}
theorem mm_callL {H : Heap} {locs : List Loc} {pc : Nat} {ls : Array Slot} {st0 rest : List Value} {x : mm_S} {Kc : mm_K} {a : Array Value} (hr : va_Run p l e R s m args below meth c H locs cells slots 0 0 (F0 m pc ls st0) rest (mm_Q D cl tC ad L x H.size (fun r x' => Kc r (mm_mrg x' x)) a) (va_A (mm_W tC ad L x) H.size)) (hP0 : va_P D cl (mm_W tC ad (L ++ M) x) H) (h1 : L.all mm_lows = true) (h2 : M.all mm_highs = true) (hd : ∀ i j, i < (L ++ M).length → j < (L ++ M).length → ad i = ad j → i = j) (hS : va_S A H0 H locs) (hsub : ∀ q, va_A (mm_W tC ad L x) H.size q → A q)
    (kk : ∀ (r : Option Value) (x' : mm_S) (H1 : Heap) (locs1 : List Loc), Kc r x' → va_P D cl (mm_W tC ad (L ++ M) x') H1 → va_S A H0 H1 locs1 → W p l e R s m args below meth c H1 locs1 cells slots Q (F0 m (pc + 3) ls ((r.map (mm_cv ad)).toList ++ rest))) : W p l e R s m args below meth c H locs cells slots Q (F0 m pc ls st0) := by
  intro T hT X
  obtain ⟨v, st₀, t, T', L', h0, X', hL, e1, e2, ⟨⟨r, x', hv, hk, hP⟩, hz, hkp⟩, st⟩ := hr T hT X
  cases hv
  rw [h0] at hz hkp
  obtain ⟨t2, a1, b1⟩ := kk r (mm_mrg x' x) T'.heap (locs ++ L') hk (by rw [e1]; exact mm_lift_P h1 h2 hd hP0 hP hkp) ⟨Nat.le_trans hS.1 (by rw [e1]; exact hz), fun q h1 h2 => by rw [e1, hkp q (Nat.lt_of_lt_of_le h1 hS.1) (fun z => h2 (hsub q z))]; exact hS.2.1 q h1 h2, fun q hq => by
      rcases List.mem_append.mp hq with h | h
      · exact hS.2.2 q h
      · exact hsub _ (hL q h)⟩ T' rfl X'
  exact ⟨t2, st t2 a1, b1⟩
theorem mm_cVL {nws TB : List Cond} {y : MethodName} {bytes : ByteArray} {maxL : Nat} {ret : Option FieldType} {rm : Room} {S : mm_P} {idx np ci N : Nat} {T : u_T} (hx : p.tables.exec = Jvm.exec) (hb : c.code = cc) (hml : c.maxLocals = nL) (hown : s.vm.findClass own = some m.cls) (hts : ∀ w ∈ TB, w.before args s = true) (hG : GoodIn TB TB) (hM : mm_Con l nws cl TB L y bytes maxL ret rm S) (hCB : mm_CB own TB nws idx R.frames R.locals y bytes maxL ret rm np) (hcl : cl[ci]? = some (y.cls, T, N)) (hinst : Cond.instanceMethod y ∈ TB) (hsel : Cond.selects y.cls y y ∈ TB)
    (hK : va_K D cl (mm_tys tC) s) (hDa : mm_Da A ad (L ++ M).length) (hA : ∀ q, H0.size ≤ q → A q) (hn : ∀ w ∈ nws, mm_isN w = true) (hNW : mm_NW nws s) (hcs : cells ≤ R.cells ∧ slots ≤ R.slots) (h1 : L.all mm_lows = true) (h2 : M.all mm_highs = true) : mm_cOk p l e R s m args below meth c cells slots Q cc D cl A H0 tC ad (L ++ M) nL (.invokevirtual idx) (np + 1) (mm_rcv (L ++ M) ci) (mm_LS S) := by
  obtain ⟨hrc, hrs, hfr, hlo, hcode, hini, hd, hlk⟩ := hCB
  have hG2 : GoodIn TB (.code y bytes maxL ret :: TB) := fun w hw => by
    rcases List.mem_cons.mp hw with rfl | h
    · exact hG _ hcode
    · exact hG _ h
  have hDL : mm_Da A ad L.length := ⟨fun i j hi hj => hDa.1 i j (by rw [List.length_append]; omega) (by rw [List.length_append]; omega), fun k hk => hDa.2 k (by rw [List.length_append]; omega)⟩
  intro x as rest Kc H locs pc ls hs hln hcat hrcv hP hS hsz hdg kk
  have hD := mm_W_D tC L x hDL
  have hPL : va_P D cl (mm_W tC ad L x) H := fun k q hk => hP k q (mm_W_pre hk)
  unfold mm_rcv at hrcv
  split at hrcv
  next k as' =>
    have hcell : ∃ o : Nat × List (Nat × Nat), (L ++ M)[k]? = some (.inr o) ∧ o.1 = ci := by
      unfold mm_ci at hrcv
      split at hrcv
      next o ho => exact ⟨o, ho, Option.some.inj hrcv⟩
      next => cases hrcv
    obtain ⟨o, ho, rfl⟩ := hcell
    have hpre : PreV s H y.cls (ad k) (mm_Pc nws cl D tC ad L (.ref k :: as') x H.size) (as'.map (mm_cv ad)) := ⟨mm_blind hn, va_recv hK hP hcl (mm_W_obj tC ad x ho), fun U hU hW => ⟨rfl, by rw [hU], by rw [hU]; exact hPL, va_K.moved hW.alike hK, hD.weaken (fun _ _ _ _ => trivial), ⟨hDL.1, fun _ _ => trivial⟩, mm_NW_warm hn hW hNW⟩⟩
    have kk' : ∀ (r : Option Value) (x' : mm_S) (H1 : Heap) (locs1 : List Loc), Kc r x' → va_P D cl (mm_W tC ad (L ++ M) x') H1 → va_S A H0 H1 locs1 → W p l e R s m args below meth c H1 locs1 cells slots Q (F0 m (pc + 3) ls ((r.map (mm_cv ad)).toList ++ rest.map (mm_cv ad))) := fun r x' H1 locs1 h1 h2 h3 => by
      have h4 := kk r x' H1 locs1 h1 h2 h3
      rwa [mm_ret_st] at h4
    rw [show ((Value.ref k :: as').reverse ++ rest).map (mm_cv ad) = (as'.map (mm_cv ad)).reverse ++ Value.ref (ad k) :: rest.map (mm_cv ad) by simp [mm_cv]]
    have hroom : (List.map (fun v => v.category) (rest.map (mm_cv ad))).sum ≤ 8 := by rw [mm_cats]; exact hcat
    have hln' : (as'.map (mm_cv ad)).length = np := by
      rw [List.length_map]
      simpa using hln
    rcases hlk with hlk | ⟨host, hlk⟩
    · exact mm_callL (va_runV (As := as'.map (mm_cv ad)) (n := np) (Ts := TB) (own := own) ⟨hx, hb, hml, hown, hts⟩ (hM D tC ad (.ref k :: as') x H.size (fun r x' => Kc r (mm_mrg x' x)) hs) ⟨callB_of np hts hG2 rfl hrc hrs (hts _ hini) (hts _ hlk) hd ⟨hfr, hlo⟩, hts _ hinst, hts _ hsel⟩ hpre rfl hln' hsz rfl (lv_room hroom) hdg hcs) hP h1 h2 hDa.1 hS (mm_sub hD hS hA) kk'
    · exact mm_callL (va_runVN (As := as'.map (mm_cv ad)) (n := np) (Ts := TB) (own := own) (host := host) ⟨hx, hb, hml, hown, hts⟩ (hM D tC ad (.ref k :: as') x H.size (fun r x' => Kc r (mm_mrg x' x)) hs) ⟨va_cnB np hts hG2 rfl hrc hrs (hNW _ hlk) (hts _ hini) hd ⟨hfr, hlo⟩, hts _ hinst, hts _ hsel⟩ hpre rfl hln' hsz rfl (lv_room hroom) hdg hcs) hP h1 h2 hDa.1 hS (mm_sub hD hS hA) kk'
  next => exact hrcv.elim
end ML
