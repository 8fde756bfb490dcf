/-! The abstract machine: what a state of the system is (registers), its cells by a layout, a method's contract as a
predicate transformer over registers, and a condition 'mm_vc' that a method's bytes keep it; mm_sound: the condition gives W. -/
abbrev mm_S : Type := (Nat → Int32) × (Nat → Int64) × (Nat → Nat → Int32)
abbrev mm_E : Type := (Nat × Nat × Nat) ⊕ (Nat × List (Nat × Nat))
abbrev mm_L : Type := List mm_E
abbrev mm_K : Type := Option Value → mm_S → Prop
abbrev mm_P : Type := List Value → mm_S → mm_K → Prop
abbrev mm_V : Type := List (Nat × Value)
abbrev mm_G : Type := (Nat → Option (Nat × Nat × Nat)) × (Nat → Option Int32) × (Nat → Option Int64) × (Nat → Option (Nat × mm_P)) × (Nat → Option (Nat × Nat × mm_P)) × Option (Nat × (Nat → Int32))
def mm_cv (ad : Nat → Nat) (v : Value) : Value := match v with
  | .ref k => .ref (ad k)
  | v => v
def mm_cq (ad : Nat → Nat) (q : Nat × Value) : Nat × Value := (q.1, mm_cv ad q.2)
def mm_fv (x : mm_S) (d : Nat × Nat) : Value := match d.1 with
  | 0 => .ref d.2
  | 1 => .int (x.1 d.2)
  | 2 => .long (x.2.1 d.2)
  | _ => .null
def mm_cl (tC : Nat → ClassId) (ad : Nat → Nat) (x : mm_S) (c : mm_E) : va_E := match c with
  | .inl q => .inl (tC q.1, q.2.1, .inl (x.2.2 q.2.2))
  | .inr o => .inr (o.1, o.2.map (fun d => mm_cv ad (mm_fv x d)))
def mm_W (tC : Nat → ClassId) (ad : Nat → Nat) (L : mm_L) (x : mm_S) : va_W := L.mapIdx (fun k c => (ad k, mm_cl tC ad x c))
def mm_tys (tC : Nat → ClassId) : List (ClassId × FieldType) := [(tC 0, .byte), (tC 1, .int)]
def mm_setI (x : mm_S) (r : Nat) (v : Int32) : mm_S := (upd x.1 r v, x.2.1, x.2.2)
def mm_setL (x : mm_S) (r : Nat) (v : Int64) : mm_S := (x.1, vp_updL x.2.1 r v, x.2.2)
def mm_setA (x : mm_S) (r : Nat) (f : Nat → Int32) : mm_S := (x.1, x.2.1, va_up x.2.2 r f)
def mm_fd (L : mm_L) (k f : Nat) : Option (Nat × Nat) := match L[k]? with
  | some (.inr o) => o.2[f]?
  | _ => none
def mm_ar (L : mm_L) (k : Nat) : Option (Nat × Nat × Nat) := match L[k]? with
  | some (.inl q) => some q
  | _ => none
def mm_ci (L : mm_L) (k : Nat) : Option Nat := match L[k]? with
  | some (.inr o) => some o.1
  | _ => none
/-- each register stands at one place -/
def mm_Lu (L : mm_L) : Prop := (∀ k f k' f' d, mm_fd L k f = some d → mm_fd L k' f' = some d → d.1 ≠ 0 → k = k' ∧ f = f') ∧ (∀ k k' q q', mm_ar L k = some q → mm_ar L k' = some q' → q.2.2 = q'.2.2 → k = k')
/-- where the cells lie: apart, and of a kind -/
def mm_Da (A : Nat → Prop) (ad : Nat → Nat) (n : Nat) : Prop := (∀ i j, i < n → j < n → ad i = ad j → i = j) ∧ ∀ k, k < n → A (ad k)
theorem mm_W_get (tC : Nat → ClassId) (ad : Nat → Nat) (L : mm_L) (x : mm_S) (k : Nat) : (mm_W tC ad L x)[k]? = (L[k]?).map (fun c => (ad k, mm_cl tC ad x c)) := by
  simp [mm_W]
theorem mm_W_len (tC : Nat → ClassId) (ad : Nat → Nat) (L : mm_L) (x : mm_S) : (mm_W tC ad L x).length = L.length := by
  simp [mm_W]
theorem mm_W_D {A : Nat → Prop} {ad : Nat → Nat} (tC : Nat → ClassId) (L : mm_L) (x : mm_S) (h : mm_Da A ad L.length) : va_D A (mm_W tC ad L x) := by
  have key : ∀ (k : Nat) (q : Nat × va_E), (mm_W tC ad L x)[k]? = some q → k < L.length ∧ q.1 = ad k := by
    intro k q hq
    rw [mm_W_get] at hq
    cases hL : L[k]? with
    | none => rw [hL] at hq; cases hq
    | some c =>
      rw [hL] at hq
      cases hq
      exact ⟨(List.getElem?_eq_some_iff.mp hL).1, rfl⟩
  refine ⟨fun i j u v hi hj huv => ?_, fun k q hk => ?_⟩
  · obtain ⟨h1, h2⟩ := key i u hi
    obtain ⟨h3, h4⟩ := key j v hj
    exact h.1 i j h1 h3 (by rw [← h2, ← h4]; exact huv)
  · obtain ⟨h1, h2⟩ := key k q hk
    rw [h2]
    exact h.2 k h1
theorem mm_fvI {x : mm_S} {r : Nat} {v : Int32} {d : Nat × Nat} (h : d ≠ (1, r)) : mm_fv (mm_setI x r v) d = mm_fv x d := by
  obtain ⟨a, b⟩ := d
  rcases a with _ | _ | _ | a
  · rfl
  · have hb : b ≠ r := fun q => h (by rw [q])
    simp [mm_fv, mm_setI, upd, hb]
  · rfl
  · rfl
theorem mm_fvL {x : mm_S} {r : Nat} {v : Int64} {d : Nat × Nat} (h : d ≠ (2, r)) : mm_fv (mm_setL x r v) d = mm_fv x d := by
  obtain ⟨a, b⟩ := d
  rcases a with _ | _ | _ | a
  · rfl
  · rfl
  · have hb : b ≠ r := fun q => h (by rw [q])
    simp [mm_fv, mm_setL, vp_updL, hb]
  · rfl
/-- a field is written: one place of one cell -/
theorem mm_W_set {L : mm_L} (hu : mm_Lu L) {k f ci : Nat} {ds : List (Nat × Nat)} {d : Nat × Nat} (hk : L[k]? = some (.inr (ci, ds))) (hf : ds[f]? = some d) (hd : d.1 ≠ 0) {x x' : mm_S} (tC : Nat → ClassId) (ad : Nat → Nat) (hfv : ∀ d', d' ≠ d → mm_fv x' d' = mm_fv x d') (harr : x'.2.2 = x.2.2) : mm_W tC ad L x' = (mm_W tC ad L x).set k (ad k, .inr (ci, (ds.map (fun d => mm_cv ad (mm_fv x d))).set f (mm_cv ad (mm_fv x' d)))) := by
  have hl : k < L.length := (List.getElem?_eq_some_iff.mp hk).1
  have hfl : f < ds.length := (List.getElem?_eq_some_iff.mp hf).1
  have hkf : mm_fd L k f = some d := by simp only [mm_fd, hk]; exact hf
  apply List.ext_getElem?
  intro j
  rw [mm_W_get]
  by_cases hj : k = j
  · subst hj
    rw [List.getElem?_set_self (by rw [mm_W_len]; exact hl), hk]
    show some (ad k, Sum.inr (ci, ds.map (fun d => mm_cv ad (mm_fv x' d)))) = _
    have e : ds.map (fun d => mm_cv ad (mm_fv x' d)) = (ds.map (fun d => mm_cv ad (mm_fv x d))).set f (mm_cv ad (mm_fv x' d)) := by
      apply List.ext_getElem?
      intro g
      rw [List.getElem?_map]
      by_cases hg : f = g
      · subst hg
        rw [List.getElem?_set_self (by rw [List.length_map]; exact hfl), hf]
        rfl
      · rw [List.getElem?_set_ne hg, List.getElem?_map]
        cases hdg : ds[g]? with
        | none => rfl
        | some d' =>
          have hne : d' ≠ d := by
            intro q
            subst q
            exact hg (hu.1 k f k g d' hkf (by simp only [mm_fd, hk]; exact hdg) hd).2
          show some (mm_cv ad (mm_fv x' d')) = some (mm_cv ad (mm_fv x d'))
          rw [hfv d' hne]
    rw [e]
  · rw [List.getElem?_set_ne hj, mm_W_get]
    cases hL : L[j]? with
    | none => rfl
    | some q =>
      cases q with
      | inl q => show some (ad j, Sum.inl (tC q.1, q.2.1, Sum.inl (x'.2.2 q.2.2))) = some (ad j, Sum.inl (tC q.1, q.2.1, Sum.inl (x.2.2 q.2.2))); rw [harr]
      | inr o =>
        show some (ad j, Sum.inr (o.1, o.2.map (fun d => mm_cv ad (mm_fv x' d)))) = some (ad j, Sum.inr (o.1, o.2.map (fun d => mm_cv ad (mm_fv x d))))
        have e : o.2.map (fun d => mm_cv ad (mm_fv x' d)) = o.2.map (fun d => mm_cv ad (mm_fv x d)) := by
          apply List.map_congr_left
          intro d' hd'
          obtain ⟨g, hg⟩ := List.getElem?_of_mem hd'
          have hne : d' ≠ d := by
            intro q
            subst q
            exact hj (hu.1 k f j g d' hkf (by simp only [mm_fd, hL]; exact hg) hd).1
          rw [hfv d' hne]
        rw [e]
/-- an array is written -/
theorem mm_W_arr {L : mm_L} (hu : mm_Lu L) {k : Nat} {q : Nat × Nat × Nat} (hk : L[k]? = some (.inl q)) {x : mm_S} (f : Nat → Int32) (tC : Nat → ClassId) (ad : Nat → Nat) : mm_W tC ad L (mm_setA x q.2.2 f) = (mm_W tC ad L x).set k (ad k, .inl (tC q.1, q.2.1, .inl f)) := by
  have hl : k < L.length := (List.getElem?_eq_some_iff.mp hk).1
  have hka : mm_ar L k = some q := by simp only [mm_ar, hk]
  apply List.ext_getElem?
  intro j
  rw [mm_W_get]
  by_cases hj : k = j
  · subst hj
    rw [List.getElem?_set_self (by rw [mm_W_len]; exact hl), hk]
    show some (ad k, Sum.inl (tC q.1, q.2.1, Sum.inl (va_up x.2.2 q.2.2 f q.2.2))) = _
    rw [va_up_self]
  · rw [List.getElem?_set_ne hj, mm_W_get]
    cases hL : L[j]? with
    | none => rfl
    | some c =>
      cases c with
      | inl q' =>
        have hne : q'.2.2 ≠ q.2.2 := fun z => hj (hu.2 k j q q' hka (by simp only [mm_ar, hL]) z.symm)
        show some (ad j, Sum.inl (tC q'.1, q'.2.1, Sum.inl (va_up x.2.2 q.2.2 f q'.2.2))) = some (ad j, Sum.inl (tC q'.1, q'.2.1, Sum.inl (x.2.2 q'.2.2)))
        rw [va_up_ne _ _ hne]
      | inr o => rfl

def mm_i (st : List Value) (k : Int32 → List Value → Prop) : Prop := match st with
  | .int a :: r => k a r
  | _ => False
theorem mm_i_e {st : List Value} {k : Int32 → List Value → Prop} (h : mm_i st k) : ∃ a r, st = .int a :: r ∧ k a r := by
  unfold mm_i at h
  split at h
  · exact ⟨_, _, rfl, h⟩
  · exact h.elim
def mm_ii (st : List Value) (k : Int32 → Int32 → List Value → Prop) : Prop := match st with
  | .int b :: .int a :: r => k a b r
  | _ => False
theorem mm_ii_e {st : List Value} {k : Int32 → Int32 → List Value → Prop} (h : mm_ii st k) : ∃ a b r, st = .int b :: .int a :: r ∧ k a b r := by
  unfold mm_ii at h
  split at h
  · exact ⟨_, _, _, rfl, h⟩
  · exact h.elim
def mm_l (st : List Value) (k : Int64 → List Value → Prop) : Prop := match st with
  | .long a :: r => k a r
  | _ => False
theorem mm_l_e {st : List Value} {k : Int64 → List Value → Prop} (h : mm_l st k) : ∃ a r, st = .long a :: r ∧ k a r := by
  unfold mm_l at h
  split at h
  · exact ⟨_, _, rfl, h⟩
  · exact h.elim
def mm_ll (st : List Value) (k : Int64 → Int64 → List Value → Prop) : Prop := match st with
  | .long b :: .long a :: r => k a b r
  | _ => False
theorem mm_ll_e {st : List Value} {k : Int64 → Int64 → List Value → Prop} (h : mm_ll st k) : ∃ a b r, st = .long b :: .long a :: r ∧ k a b r := by
  unfold mm_ll at h
  split at h
  · exact ⟨_, _, _, rfl, h⟩
  · exact h.elim
def mm_li (st : List Value) (k : Int64 → Int32 → List Value → Prop) : Prop := match st with
  | .int b :: .long a :: r => k a b r
  | _ => False
theorem mm_li_e {st : List Value} {k : Int64 → Int32 → List Value → Prop} (h : mm_li st k) : ∃ a b r, st = .int b :: .long a :: r ∧ k a b r := by
  unfold mm_li at h
  split at h
  · exact ⟨_, _, _, rfl, h⟩
  · exact h.elim
def mm_r (st : List Value) (k : Nat → List Value → Prop) : Prop := match st with
  | .ref a :: r => k a r
  | _ => False
theorem mm_r_e {st : List Value} {k : Nat → List Value → Prop} (h : mm_r st k) : ∃ a r, st = .ref a :: r ∧ k a r := by
  unfold mm_r at h
  split at h
  · exact ⟨_, _, rfl, h⟩
  · exact h.elim
def mm_ri (st : List Value) (k : Nat → Int32 → List Value → Prop) : Prop := match st with
  | .int b :: .ref a :: r => k a b r
  | _ => False
theorem mm_ri_e {st : List Value} {k : Nat → Int32 → List Value → Prop} (h : mm_ri st k) : ∃ a b r, st = .int b :: .ref a :: r ∧ k a b r := by
  unfold mm_ri at h
  split at h
  · exact ⟨_, _, _, rfl, h⟩
  · exact h.elim
def mm_rii (st : List Value) (k : Nat → Int32 → Int32 → List Value → Prop) : Prop := match st with
  | .int d :: .int b :: .ref a :: r => k a b d r
  | _ => False
theorem mm_rii_e {st : List Value} {k : Nat → Int32 → Int32 → List Value → Prop} (h : mm_rii st k) : ∃ a b d r, st = .int d :: .int b :: .ref a :: r ∧ k a b d r := by
  unfold mm_rii at h
  split at h
  · exact ⟨_, _, _, _, rfl, h⟩
  · exact h.elim
def mm_v (st : List Value) (k : Value → List Value → Prop) : Prop := match st with
  | v :: r => k v r
  | _ => False
theorem mm_v_e {st : List Value} {k : Value → List Value → Prop} (h : mm_v st k) : ∃ v r, st = v :: r ∧ k v r := by
  unfold mm_v at h
  split at h
  · exact ⟨_, _, rfl, h⟩
  · exact h.elim
def mm_vv (st : List Value) (k : Value → Value → List Value → Prop) : Prop := match st with
  | v :: w :: r => k v w r
  | _ => False
theorem mm_vv_e {st : List Value} {k : Value → Value → List Value → Prop} (h : mm_vv st k) : ∃ v w r, st = v :: w :: r ∧ k v w r := by
  unfold mm_vv at h
  split at h
  · exact ⟨_, _, _, rfl, h⟩
  · exact h.elim
def mm_vr (st : List Value) (k : Value → Nat → List Value → Prop) : Prop := match st with
  | v :: .ref a :: r => k v a r
  | _ => False
theorem mm_vr_e {st : List Value} {k : Value → Nat → List Value → Prop} (h : mm_vr st k) : ∃ v a r, st = v :: .ref a :: r ∧ k v a r := by
  unfold mm_vr at h
  split at h
  · exact ⟨_, _, _, rfl, h⟩
  · exact h.elim
def mm_o {α : Type} (o : Option α) (k : α → Prop) : Prop := match o with
  | some v => k v
  | none => False
theorem mm_o_e {α : Type} {o : Option α} {k : α → Prop} (h : mm_o o k) : ∃ v, o = some v ∧ k v := by
  unfold mm_o at h
  split at h
  · exact ⟨_, rfl, h⟩
  · exact h.elim

theorem mm_lookup {lv : mm_V} {i : Nat} {v : Value} (h : lv.lookup i = some v) : (i, v) ∈ lv := by
  induction lv with
  | nil => simp at h
  | cons q t ih =>
    obtain ⟨j, u⟩ := q
    rw [List.lookup_cons] at h
    by_cases hij : i == j
    · rw [hij] at h
      cases h
      have e : i = j := by simpa using hij
      subst e
      exact List.mem_cons_self
    · have e : (i == j) = false := by simpa using hij
      rw [e] at h
      exact List.mem_cons_of_mem _ (ih h)
def mm_ldi (lv : mm_V) (i : Nat) (k : Int32 → Prop) : Prop := match lv.lookup i with
  | some (.int v) => k v
  | _ => False
theorem mm_ldi_e {lv : mm_V} {i : Nat} {k : Int32 → Prop} (h : mm_ldi lv i k) : ∃ v, (i, Value.int v) ∈ lv ∧ k v := by
  unfold mm_ldi at h
  split at h
  next v hv => exact ⟨v, mm_lookup hv, h⟩
  next => exact h.elim
def mm_ldl (lv : mm_V) (i : Nat) (k : Int64 → Prop) : Prop := match lv.lookup i with
  | some (.long v) => k v
  | _ => False
theorem mm_ldl_e {lv : mm_V} {i : Nat} {k : Int64 → Prop} (h : mm_ldl lv i k) : ∃ v, (i, Value.long v) ∈ lv ∧ k v := by
  unfold mm_ldl at h
  split at h
  next v hv => exact ⟨v, mm_lookup hv, h⟩
  next => exact h.elim
def mm_lda (lv : mm_V) (i : Nat) (k : Nat → Prop) : Prop := match lv.lookup i with
  | some (.ref v) => k v
  | _ => False
theorem mm_lda_e {lv : mm_V} {i : Nat} {k : Nat → Prop} (h : mm_lda lv i k) : ∃ v, (i, Value.ref v) ∈ lv ∧ k v := by
  unfold mm_lda at h
  split at h
  next v hv => exact ⟨v, mm_lookup hv, h⟩
  next => exact h.elim
def mm_st1 (lv : mm_V) (i : Nat) (v : Value) : mm_V := (i, v) :: lv.filter (fun q => !(q.1 == i) && !(q.1 + 1 == i && q.2.category == 2))
def mm_st2 (lv : mm_V) (i : Nat) (v : Value) : mm_V := (i, v) :: lv.filter (fun q => !(q.1 == i) && (!(q.1 == i + 1) && !(q.1 + 1 == i && q.2.category == 2)))
theorem mm_cat (ad : Nat → Nat) (v : Value) : (mm_cv ad v).category = v.category := by cases v <;> rfl
theorem mm_st1_c (ad : Nat → Nat) (lv : mm_V) (i : Nat) (v : Value) : (mm_st1 lv i v).map (mm_cq ad) = (i, mm_cv ad v) :: (lv.map (mm_cq ad)).filter (fun q => !(q.1 == i) && !(q.1 + 1 == i && q.2.category == 2)) := by
  unfold mm_st1
  rw [List.map_cons, List.filter_map]
  congr 2
  apply List.filter_congr
  intro q _
  simp [mm_cq, mm_cat]
theorem mm_st2_c (ad : Nat → Nat) (lv : mm_V) (i : Nat) (v : Value) : (mm_st2 lv i v).map (mm_cq ad) = (i, mm_cv ad v) :: (lv.map (mm_cq ad)).filter (fun q => !(q.1 == i) && (!(q.1 == i + 1) && !(q.1 + 1 == i && q.2.category == 2))) := by
  unfold mm_st2
  rw [List.map_cons, List.filter_map]
  congr 2
  apply List.filter_congr
  intro q _
  simp [mm_cq, mm_cat]
def mm_cond (c : ClassFile.Cond) (x y : Int32) : Prop := match c with
  | .eq => x = y
  | .ne => ¬ x = y
  | .lt => x < y
  | .ge => y ≤ x
  | .gt => y < x
  | .le => x ≤ y
def mm_br (c A B : Prop) : Prop := (c → A) ∧ (¬ c → B)
def mm_tab (v : Int32) (pc : Nat) (f : Nat → Prop) : Int → List Int → Prop
  | _, [] => True
  | lo, o :: os => (v.toInt = lo → 0 ≤ (pc : Int) + o ∧ f ((pc : Int) + o).toNat) ∧ mm_tab v pc f (lo + 1) os
theorem mm_nz {v : Int32} (h : v = 0 ∨ v = 1) : narrow .boolean (.int v) = .int v := by
  rcases h with h | h <;> subst h <;> rfl
def mm_put (t : Nat) (d : Nat × Nat) (v : Value) (x : mm_S) (k : mm_S → Prop) : Prop := match d.1, v with
  | 1, .int v => (t = 0 ∨ (t = 1 ∧ (v = 0 ∨ v = 1))) ∧ k (mm_setI x d.2 v)
  | 2, .long v => t = 2 ∧ k (mm_setL x d.2 v)
  | _, _ => False
def mm_push (v : Option Value) (r : List Value) : List Value := match v with
  | some v => v :: r
  | none => r
def mm_rcv (L : mm_L) (ci : Nat) (as : List Value) : Prop := match as with
  | .ref k :: _ => mm_ci L k = some ci
  | _ => False
def mm_reti (st : List Value) (k : Int32 → Prop) : Prop := match st with
  | [.int v] => k v
  | _ => False
def mm_retl (st : List Value) (k : Int64 → Prop) : Prop := match st with
  | [.long v] => k v
  | _ => False
theorem mm_reti_e {st : List Value} {k : Int32 → Prop} (h : mm_reti st k) : ∃ v, st = [.int v] ∧ k v := by
  unfold mm_reti at h
  split at h
  · exact ⟨_, rfl, h⟩
  · exact h.elim
theorem mm_retl_e {st : List Value} {k : Int64 → Prop} (h : mm_retl st k) : ∃ v, st = [.long v] ∧ k v := by
  unfold mm_retl at h
  split at h
  · exact ⟨_, rfl, h⟩
  · exact h.elim

def mm_step (G : mm_G) (L : mm_L) (nL : Nat) (rt : Option FieldType) (K : mm_K) (go : Nat → mm_V → List Value → mm_S → Prop) (pc : Nat) (i : ClassFile.Instr) (n : Nat) (lv : mm_V) (st : List Value) (x : mm_S) : Prop := match i with
  | .iconst v => n = 1 ∧ go (pc + 1) lv (.int (Int32.ofInt v) :: st) x
  | .bipush v => n = 2 ∧ go (pc + 2) lv (.int (Int8.ofInt v).toInt32 :: st) x
  | .sipush v => n = 3 ∧ go (pc + 3) lv (.int (Int16.ofInt v).toInt32 :: st) x
  | .lconst v => n = 1 ∧ go (pc + 1) lv (.long (Int64.ofNat (v : Nat)) :: st) x
  | .ldc k => n = 2 ∧ mm_o (G.2.1 k) (fun v => go (pc + 2) lv (.int v :: st) x)
  | .ldc2_w k => n = 3 ∧ mm_o (G.2.2.1 k) (fun v => go (pc + 3) lv (.long v :: st) x)
  | .iload_n k => n = 1 ∧ mm_ldi lv (k : Nat) (fun v => go (pc + 1) lv (.int v :: st) x)
  | .iload k => n = 2 ∧ mm_ldi lv k (fun v => go (pc + 2) lv (.int v :: st) x)
  | .lload_n k => n = 1 ∧ mm_ldl lv (k : Nat) (fun v => go (pc + 1) lv (.long v :: st) x)
  | .lload k => n = 2 ∧ mm_ldl lv k (fun v => go (pc + 2) lv (.long v :: st) x)
  | .aload_n k => n = 1 ∧ mm_lda lv (k : Nat) (fun v => go (pc + 1) lv (.ref v :: st) x)
  | .aload k => n = 2 ∧ mm_lda lv k (fun v => go (pc + 2) lv (.ref v :: st) x)
  | .istore_n k => n = 1 ∧ (k : Nat) < nL ∧ mm_i st (fun v r => go (pc + 1) (mm_st1 lv (k : Nat) (.int v)) r x)
  | .istore k => n = 2 ∧ k < nL ∧ mm_i st (fun v r => go (pc + 2) (mm_st1 lv k (.int v)) r x)
  | .lstore_n k => n = 1 ∧ (k : Nat) + 1 < nL ∧ mm_l st (fun v r => go (pc + 1) (mm_st2 lv (k : Nat) (.long v)) r x)
  | .lstore k => n = 2 ∧ k + 1 < nL ∧ mm_l st (fun v r => go (pc + 2) (mm_st2 lv k (.long v)) r x)
  | .astore_n k => n = 1 ∧ (k : Nat) < nL ∧ mm_r st (fun v r => go (pc + 1) (mm_st1 lv (k : Nat) (.ref v)) r x)
  | .astore k => n = 2 ∧ k < nL ∧ mm_r st (fun v r => go (pc + 2) (mm_st1 lv k (.ref v)) r x)
  | .iinc k v => n = 3 ∧ k < nL ∧ mm_ldi lv k (fun u => go (pc + 3) (mm_st1 lv k (.int (u + Int32.ofInt v))) st x)
  | .iadd => n = 1 ∧ mm_ii st (fun a b r => go (pc + 1) lv (.int (a + b) :: r) x)
  | .isub => n = 1 ∧ mm_ii st (fun a b r => go (pc + 1) lv (.int (a - b) :: r) x)
  | .imul => n = 1 ∧ mm_ii st (fun a b r => go (pc + 1) lv (.int (a * b) :: r) x)
  | .iand => n = 1 ∧ mm_ii st (fun a b r => go (pc + 1) lv (.int (a &&& b) :: r) x)
  | .ior => n = 1 ∧ mm_ii st (fun a b r => go (pc + 1) lv (.int (a ||| b) :: r) x)
  | .ixor => n = 1 ∧ mm_ii st (fun a b r => go (pc + 1) lv (.int (a ^^^ b) :: r) x)
  | .ishl => n = 1 ∧ mm_ii st (fun a b r => go (pc + 1) lv (.int (a <<< (b &&& 31)) :: r) x)
  | .ishr => n = 1 ∧ mm_ii st (fun a b r => go (pc + 1) lv (.int (a >>> (b &&& 31)) :: r) x)
  | .iushr => n = 1 ∧ mm_ii st (fun a b r => go (pc + 1) lv (.int (a.toUInt32 >>> (b.toUInt32 &&& Int32.toUInt32 31)).toInt32 :: r) x)
  | .idiv => n = 1 ∧ mm_ii st (fun a b r => ¬ b = 0 ∧ go (pc + 1) lv (.int (a / b) :: r) x)
  | .irem => n = 1 ∧ mm_ii st (fun a b r => ¬ b = 0 ∧ go (pc + 1) lv (.int (a - a / b * b) :: r) x)
  | .ineg => n = 1 ∧ mm_i st (fun a r => go (pc + 1) lv (.int (-a) :: r) x)
  | .ladd => n = 1 ∧ mm_ll st (fun a b r => go (pc + 1) lv (.long (a + b) :: r) x)
  | .lsub => n = 1 ∧ mm_ll st (fun a b r => go (pc + 1) lv (.long (a - b) :: r) x)
  | .lmul => n = 1 ∧ mm_ll st (fun a b r => go (pc + 1) lv (.long (a * b) :: r) x)
  | .land => n = 1 ∧ mm_ll st (fun a b r => go (pc + 1) lv (.long (a &&& b) :: r) x)
  | .lor => n = 1 ∧ mm_ll st (fun a b r => go (pc + 1) lv (.long (a ||| b) :: r) x)
  | .lxor => n = 1 ∧ mm_ll st (fun a b r => go (pc + 1) lv (.long (a ^^^ b) :: r) x)
  | .lshl => n = 1 ∧ mm_li st (fun a b r => go (pc + 1) lv (.long (a <<< (b.toInt64 &&& 63)) :: r) x)
  | .lshr => n = 1 ∧ mm_li st (fun a b r => go (pc + 1) lv (.long (a >>> (b.toInt64 &&& 63)) :: r) x)
  | .lushr => n = 1 ∧ mm_li st (fun a b r => go (pc + 1) lv (.long ((a.toUInt64 >>> (b.toInt64.toUInt64 &&& Int64.toUInt64 63)).toInt64) :: r) x)
  | .i2l => n = 1 ∧ mm_i st (fun a r => go (pc + 1) lv (.long a.toInt64 :: r) x)
  | .l2i => n = 1 ∧ mm_l st (fun a r => go (pc + 1) lv (.int a.toInt32 :: r) x)
  | .i2b => n = 1 ∧ mm_i st (fun a r => go (pc + 1) lv (.int a.toInt8.toInt32 :: r) x)
  | .lcmp => n = 1 ∧ mm_ll st (fun a b r => go (pc + 1) lv (.int (lg_cmp a b) :: r) x)
  | .dup => n = 1 ∧ mm_v st (fun v r => v.category = 1 ∧ go (pc + 1) lv (v :: v :: r) x)
  | .dup2 => n = 1 ∧ mm_vv st (fun v w r => v.category = 1 ∧ w.category = 1 ∧ go (pc + 1) lv (v :: w :: v :: w :: r) x)
  | .pop => n = 1 ∧ mm_v st (fun v r => v.category = 1 ∧ go (pc + 1) lv r x)
  | .if_icmp cnd o => n = 3 ∧ 0 ≤ (pc : Int) + o ∧ mm_ii st (fun a b r => mm_br (mm_cond cnd a b) (go ((pc : Int) + o).toNat lv r x) (go (pc + 3) lv r x))
  | .ifCond cnd o => n = 3 ∧ 0 ≤ (pc : Int) + o ∧ mm_i st (fun a r => mm_br (mm_cond cnd a 0) (go ((pc : Int) + o).toNat lv r x) (go (pc + 3) lv r x))
  | .goto o => n = 3 ∧ 0 ≤ (pc : Int) + o ∧ go ((pc : Int) + o).toNat lv st x
  | .tableswitch d lo hi os => mm_i st (fun a r => ((a.toInt < lo ∨ hi < a.toInt) → 0 ≤ (pc : Int) + d ∧ go ((pc : Int) + d).toNat lv r x) ∧ os.size = (hi + 1 - lo).toNat ∧ lo ≤ hi ∧ mm_tab a pc (fun t => go t lv r x) lo os.toList)
  | .getfield k => n = 3 ∧ mm_r st (fun a r => mm_o (G.1 k) (fun q => mm_ci L a = some q.1 ∧ mm_o (mm_fd L a q.2.1) (fun d => go (pc + 3) lv (mm_fv x d :: r) x)))
  | .putfield k => n = 3 ∧ mm_vr st (fun v a r => mm_o (G.1 k) (fun q => mm_ci L a = some q.1 ∧ mm_o (mm_fd L a q.2.1) (fun d => mm_put q.2.2 d v x (fun x' => go (pc + 3) lv r x'))))
  | .baload => n = 1 ∧ mm_ri st (fun a j r => mm_o (mm_ar L a) (fun q => q.1 = 0 ∧ vp_in j q.2.1 ∧ go (pc + 1) lv (.int (x.2.2 q.2.2 j.toNatClampNeg) :: r) x))
  | .iaload => n = 1 ∧ mm_ri st (fun a j r => if a = 1000 then mm_o G.2.2.2.2.2 (fun q => vp_in j q.1 ∧ go (pc + 1) lv (.int (q.2 j.toNatClampNeg) :: r) x) else mm_o (mm_ar L a) (fun q => q.1 = 1 ∧ vp_in j q.2.1 ∧ go (pc + 1) lv (.int (x.2.2 q.2.2 j.toNatClampNeg) :: r) x))
  | .bastore => n = 1 ∧ mm_rii st (fun a j d r => mm_o (mm_ar L a) (fun q => q.1 = 0 ∧ vp_in j q.2.1 ∧ go (pc + 1) lv r (mm_setA x q.2.2 (upd (x.2.2 q.2.2) j.toNatClampNeg (vp_nar .byte d)))))
  | .iastore => n = 1 ∧ mm_rii st (fun a j d r => mm_o (mm_ar L a) (fun q => q.1 = 1 ∧ vp_in j q.2.1 ∧ go (pc + 1) lv r (mm_setA x q.2.2 (upd (x.2.2 q.2.2) j.toNatClampNeg d))))
  | .arraylength => n = 1 ∧ mm_r st (fun a r => if a = 1000 then mm_o G.2.2.2.2.2 (fun q => go (pc + 1) lv (.int (Int32.ofNat q.1) :: r) x) else mm_o (mm_ar L a) (fun q => q.1 < 2 ∧ go (pc + 1) lv (.int (Int32.ofNat q.2.1) :: r) x))
  | .invokestatic k => n = 3 ∧ mm_o (G.2.2.2.1 k) (fun q => q.1 ≤ st.length ∧ ((st.drop q.1).map Value.category).sum ≤ 8 ∧ q.2 (st.take q.1).reverse x (fun r x' => go (pc + 3) lv (mm_push r (st.drop q.1)) x'))
  | .invokevirtual k => n = 3 ∧ mm_o (G.2.2.2.2.1 k) (fun q => q.1 ≤ st.length ∧ ((st.drop q.1).map Value.category).sum ≤ 8 ∧ mm_rcv L q.2.1 (st.take q.1).reverse ∧ q.2.2 (st.take q.1).reverse x (fun r x' => go (pc + 3) lv (mm_push r (st.drop q.1)) x'))
  | .ireturn => n = 1 ∧ mm_o rt (fun ty => mm_reti st (fun v => narrow ty (.int v) = .int v ∧ K (some (.int v)) x))
  | .lreturn => n = 1 ∧ rt = some .long ∧ mm_retl st (fun v => K (some (.long v)) x)
  | .return_ => n = 1 ∧ rt = none ∧ st = [] ∧ K none x
  | _ => False
def mm_vc (G : mm_G) (L : mm_L) (nL : Nat) (rt : Option FieldType) (cc : ByteArray) (cs : List Nat) (CP : Nat → mm_V → List Value → mm_S → Prop) (K : mm_K) : Nat → Nat → mm_V → List Value → mm_S → Prop
  | 0, _, _, _, _ => False
  | n + 1, pc, lv, st, x => match decode cc pc with
    | .ok q => mm_step G L nL rt K (fun pc' lv' st' x' => if pc' ∈ cs then CP pc' lv' st' x' else mm_vc G L nL rt cc cs CP K n pc' lv' st' x') pc q.1 q.2 lv st x
    | .error _ => False
theorem mm_tab_e {v : Int32} {pc : Nat} {f : Nat → Prop} : ∀ {os : List Int} {lo : Int}, mm_tab v pc f lo os → ∀ (k : Nat) (o : Int), os[k]? = some o → v.toInt = lo + k → 0 ≤ (pc : Int) + o ∧ f ((pc : Int) + o).toNat
  | [], _, _, k, o, h, _ => by simp at h
  | o' :: os, lo, ht, k, o, h, hv => by
    cases k with
    | zero =>
      rw [List.getElem?_cons_zero] at h
      cases h
      exact ht.1 (by rw [hv]; simp)
    | succ k =>
      rw [List.getElem?_cons_succ] at h
      exact mm_tab_e ht.2 k o h (by rw [hv]; push_cast; omega)
theorem mm_cell {L : mm_L} {a c f : Nat} {d : Nat × Nat} (h1 : mm_ci L a = some c) (h2 : mm_fd L a f = some d) : ∃ o : Nat × List (Nat × Nat), L[a]? = some (.inr o) ∧ o.1 = c ∧ o.2[f]? = some d := by
  unfold mm_ci at h1
  unfold mm_fd at h2
  split at h1
  next o ho =>
    rw [ho] at h2
    exact ⟨o, ho, Option.some.inj h1, h2⟩
  next => cases h1
theorem mm_ar_e {L : mm_L} {a : Nat} {q : Nat × Nat × Nat} (h : mm_ar L a = some q) : L[a]? = some (.inl q) := by
  unfold mm_ar at h
  split at h
  next q' hq => rw [hq, Option.some.inj h]
  next => cases h
theorem mm_W_obj {L : mm_L} {a : Nat} {o : Nat × List (Nat × Nat)} (tC : Nat → ClassId) (ad : Nat → Nat) (x : mm_S) (h : L[a]? = some (.inr o)) : (mm_W tC ad L x)[a]? = some (ad a, .inr (o.1, o.2.map (fun d => mm_cv ad (mm_fv x d)))) := by
  rw [mm_W_get, h]
  rfl
theorem mm_W_ary {L : mm_L} {a : Nat} {q : Nat × Nat × Nat} (tC : Nat → ClassId) (ad : Nat → Nat) (x : mm_S) (h : mm_ar L a = some q) : (mm_W tC ad L x)[a]? = some (ad a, .inl (tC q.1, q.2.1, .inl (x.2.2 q.2.2))) := by
  rw [mm_W_get, mm_ar_e h]
  rfl
def mm_ty (t : Nat) : FieldType := match t with
  | 0 => .int
  | 1 => .boolean
  | _ => .long
theorem mm_put_e {ad : Nat → Nat} {t : Nat} {d : Nat × Nat} {v : Value} {x : mm_S} {k : mm_S → Prop} (h : mm_put t d v x k) : ∃ x', d.1 ≠ 0 ∧ mm_cv ad (mm_fv x' d) = mm_cv ad v ∧ t ≠ 3 ∧ narrow (mm_ty t) (mm_cv ad v) = mm_cv ad v ∧ fits (mm_ty t) (mm_cv ad v) = true ∧ (∀ d', d' ≠ d → mm_fv x' d' = mm_fv x d') ∧ x'.2.2 = x.2.2 ∧ k x' := by
  obtain ⟨d1, d2⟩ := d
  unfold mm_put at h
  split at h
  next v' hd1 =>
    dsimp only at hd1
    subst hd1
    refine ⟨_, Nat.one_ne_zero, by simp [mm_fv, mm_setI, upd], ?_, ?_, ?_, fun d' hd' => mm_fvI hd', rfl, h.2⟩
    · rcases h.1 with h1 | h1 <;> omega
    · rcases h.1 with h1 | ⟨h1, h2⟩
      · subst h1; rfl
      · subst h1
        rcases h2 with h2 | h2 <;> subst h2 <;> rfl
    · rcases h.1 with h1 | ⟨h1, h2⟩
      · subst h1; rfl
      · subst h1
        rcases h2 with h2 | h2 <;> subst h2 <;> rfl
  next v' hd1 =>
    dsimp only at hd1
    subst hd1
    obtain ⟨rfl, h⟩ := h
    exact ⟨_, by simp, by simp [mm_fv, mm_setL, vp_updL], by decide, rfl, rfl, fun d' hd' => mm_fvL hd', rfl, h⟩
  next => exact h.elim
def mm_fOk (s : State) (args : Array Value) (cl : List vw_C) (Ts : List Cond) (own : String) (idx : Nat) (q : Nat × Nat × Nat) : Prop :=
  ∃ (C : String) (T : u_T) (N : Nat) (ty0 : Nat → FieldType), cl[q.1]? = some (C, T, N) ∧ q.2.1 < N ∧ (∀ w ∈ u_ws C T N, w ∈ Ts) ∧ (∀ k, k < N → parseFieldDescriptor (T k).2.2.1 = some (ty0 k)) ∧ (∀ a, a < N → ∀ b, b < N → a ≠ b → (T a).2.1 ≠ (T b).2.1) ∧
  ((Cond.fieldLink own idx (T q.2.1).1 (T q.2.1).2.1 (T q.2.1).2.2.1).before args s = true ∨ ∃ host, (Cond.fieldLinkNest own idx (T q.2.1).1 (T q.2.1).2.1 (T q.2.1).2.2.1 host).before args s = true) ∧
  (q.2.2 ≠ 3 → (T q.2.1).2.2.2 = false ∧ parseFieldDescriptor (T q.2.1).2.2.1 = some (mm_ty q.2.2))
section MM
variable {p : Program} {l : Launch} {e : Env} {R : Room} {s : State} {m : MethodId} {args : Array Value} {below : List Frame} {meth : Method} {c : Code} {cells slots : Nat} {Q : State → Prop} {cc : ByteArray} {D : va_G} {cl : List vw_C} {A : Nat → Prop} {H0 : Heap} {tC : Nat → ClassId} {ad : Nat → Nat} {L : mm_L} {nL : Nat} {Ts : List Cond} {own : String}
/-- a call whose callee has a contract: from the call's place to the one behind it -/
def mm_cOk (p : Program) (l : Launch) (e : Env) (R : Room) (s : State) (m : MethodId) (args : Array Value) (below : List Frame) (meth : Method) (c : Code) (cells slots : Nat) (Q : State → Prop) (cc : ByteArray) (D : va_G) (cl : List vw_C) (A : Nat → Prop) (H0 : Heap) (tC : Nat → ClassId) (ad : Nat → Nat) (L : mm_L) (nL : Nat) (i : ClassFile.Instr) (n : Nat) (Pr : List Value → Prop) (S : mm_P) : Prop :=
  ∀ (x : mm_S) (as rest : List Value) (Kc : mm_K) (H : Heap) (locs : List Loc) (pc : Nat) (ls : Array Slot), S as x Kc → as.length = n → (rest.map Value.category).sum ≤ 8 → Pr as → va_P D cl (mm_W tC ad L x) H → va_S A H0 H locs → ls.size = nL → decode cc pc = .ok (i, 3) →
    (∀ (r : Option Value) (x' : mm_S) (H1 : Heap) (locs1 : List Loc), Kc r x' → va_P D cl (mm_W tC ad L x') H1 → va_S A H0 H1 locs1 → W p l e R s m args below meth c H1 locs1 cells slots Q (F0 m (pc + 3) ls ((mm_push r rest).map (mm_cv ad)))) →
    W p l e R s m args below meth c H locs cells slots Q (F0 m pc ls ((as.reverse ++ rest).map (mm_cv ad)))
set_option maxHeartbeats 4000000 in
theorem mm_step_sound {G : mm_G} {rt : Option FieldType} {K : mm_K} {go : Nat → mm_V → List Value → mm_S → Prop} (hx : p.tables.exec = Jvm.exec) (hb : c.code = cc) (hown : s.vm.findClass own = some m.cls) (hts : ∀ w ∈ Ts, w.before args s = true) (hK : va_K D cl (mm_tys tC) s) (hDa : mm_Da A ad L.length) (hu : mm_Lu L)
    (hF : ∀ idx q, G.1 idx = some q → mm_fOk s args cl Ts own idx q) (hI : ∀ idx v, G.2.1 idx = some v → (Cond.constant own idx v).before args s = true) (hJ : ∀ idx v, G.2.2.1 idx = some v → (Cond.constantLong own idx v).before args s = true)
    (hCS : ∀ idx q, G.2.2.2.1 idx = some q → mm_cOk p l e R s m args below meth c cells slots Q cc D cl A H0 tC ad L nL (.invokestatic idx) q.1 (fun _ => True) q.2)
    (hCV : ∀ idx q, G.2.2.2.2.1 idx = some q → mm_cOk p l e R s m args below meth c cells slots Q cc D cl A H0 tC ad L nL (.invokevirtual idx) q.1 (mm_rcv L q.2.1) q.2.2)
    (hRi : ∀ H locs x pc ls v ty, va_P D cl (mm_W tC ad L x) H → va_S A H0 H locs → decode cc pc = .ok (.ireturn, 1) → rt = some ty → narrow ty (.int v) = .int v → K (some (.int v)) x → W p l e R s m args below meth c H locs cells slots Q (F0 m pc ls [.int v]))
    (hRl : ∀ H locs x pc ls v, va_P D cl (mm_W tC ad L x) H → va_S A H0 H locs → decode cc pc = .ok (.lreturn, 1) → rt = some .long → K (some (.long v)) x → W p l e R s m args below meth c H locs cells slots Q (F0 m pc ls [.long v]))
    (hRv : ∀ H locs x pc ls, va_P D cl (mm_W tC ad L x) H → va_S A H0 H locs → decode cc pc = .ok (.return_, 1) → rt = none → K none x → W p l e R s m args below meth c H locs cells slots Q (F0 m pc ls []))
    (hX : ∀ q, G.2.2.2.2.2 = some q → va_X (ad 1000) q.1 q.2 s H0 ∧ ad 1000 < H0.size ∧ ¬ A (ad 1000))
    (hgo : ∀ pc lv st x H locs ls, go pc lv st x → va_P D cl (mm_W tC ad L x) H → va_S A H0 H locs → lv_has ls nL (lv.map (mm_cq ad)) → W p l e R s m args below meth c H locs cells slots Q (F0 m pc ls (st.map (mm_cv ad))))
    {pc n : Nat} {i : ClassFile.Instr} {lv : mm_V} {st : List Value} {x : mm_S} {H : Heap} {locs : List Loc} {ls : Array Slot} (hd : decode cc pc = .ok (i, n)) (h : mm_step G L nL rt K go pc i n lv st x) (hP : va_P D cl (mm_W tC ad L x) H) (hS : va_S A H0 H locs) (hl : lv_has ls nL (lv.map (mm_cq ad))) : W p l e R s m args below meth c H locs cells slots Q (F0 m pc ls (st.map (mm_cv ad))) := by
  cases i with
  | iconst v =>
    obtain ⟨rfl, h⟩ := h
    exact lv_iconst hx hb hd rfl (hgo _ _ _ _ _ _ _ h hP hS hl)
  | bipush v =>
    obtain ⟨rfl, h⟩ := h
    exact lv_bipush hx hb hd rfl (hgo _ _ _ _ _ _ _ h hP hS hl)
  | sipush v =>
    obtain ⟨rfl, h⟩ := h
    exact lv_sipush hx hb hd rfl (hgo _ _ _ _ _ _ _ h hP hS hl)
  | lconst v =>
    obtain ⟨rfl, h⟩ := h
    exact lv_lconst hx hb hd rfl (hgo _ _ _ _ _ _ _ h hP hS hl)
  | ldc k =>
    obtain ⟨rfl, h⟩ := h
    obtain ⟨v, hv, h⟩ := mm_o_e h
    exact lv_ldc hx hb hown (hI _ _ hv) hd (hgo _ _ _ _ _ _ _ h hP hS hl)
  | ldc2_w k =>
    obtain ⟨rfl, h⟩ := h
    obtain ⟨v, hv, h⟩ := mm_o_e h
    exact lv_ldc2 hx hb hown (hJ _ _ hv) hd (hgo _ _ _ _ _ _ _ h hP hS hl)
  | iload_n k =>
    obtain ⟨rfl, h⟩ := h
    obtain ⟨v, hv, h⟩ := mm_ldi_e h
    exact lv_iload_n hx hb hd rfl (hl.2.2 _ (List.mem_map_of_mem (f := mm_cq ad) hv)) (hgo _ _ _ _ _ _ _ h hP hS hl)
  | iload k =>
    obtain ⟨rfl, h⟩ := h
    obtain ⟨v, hv, h⟩ := mm_ldi_e h
    exact lv_iload hx hb hd (hl.2.2 _ (List.mem_map_of_mem (f := mm_cq ad) hv)) (hgo _ _ _ _ _ _ _ h hP hS hl)
  | lload_n k =>
    obtain ⟨rfl, h⟩ := h
    obtain ⟨v, hv, h⟩ := mm_ldl_e h
    exact lv_lload_n hx hb hd rfl (hl.2.2 _ (List.mem_map_of_mem (f := mm_cq ad) hv)) (hgo _ _ _ _ _ _ _ h hP hS hl)
  | lload k =>
    obtain ⟨rfl, h⟩ := h
    obtain ⟨v, hv, h⟩ := mm_ldl_e h
    exact lv_lload hx hb hd (hl.2.2 _ (List.mem_map_of_mem (f := mm_cq ad) hv)) (hgo _ _ _ _ _ _ _ h hP hS hl)
  | aload_n k =>
    obtain ⟨rfl, h⟩ := h
    obtain ⟨v, hv, h⟩ := mm_lda_e h
    exact lv_aload_n hx hb hd rfl (hl.2.2 _ (List.mem_map_of_mem (f := mm_cq ad) hv)) (hgo _ _ _ _ _ _ _ h hP hS hl)
  | aload k =>
    obtain ⟨rfl, h⟩ := h
    obtain ⟨v, hv, h⟩ := mm_lda_e h
    exact lv_aload hx hb hd (hl.2.2 _ (List.mem_map_of_mem (f := mm_cq ad) hv)) (hgo _ _ _ _ _ _ _ h hP hS hl)
  | istore_n k =>
    obtain ⟨rfl, hn, h⟩ := h
    obtain ⟨v, r, rfl, h⟩ := mm_i_e h
    exact lv_istore_n hx hb hd rfl hl hn (mm_st1_c ad lv _ (.int v)).symm (fun ls hl => (hgo _ _ _ _ _ _ _ h hP hS hl))
  | istore k =>
    obtain ⟨rfl, hn, h⟩ := h
    obtain ⟨v, r, rfl, h⟩ := mm_i_e h
    exact lv_istore hx hb hd hl hn (mm_st1_c ad lv _ (.int v)).symm (fun ls hl => (hgo _ _ _ _ _ _ _ h hP hS hl))
  | lstore_n k =>
    obtain ⟨rfl, hn, h⟩ := h
    obtain ⟨v, r, rfl, h⟩ := mm_l_e h
    exact lv_lstore_n hx hb hd rfl hl hn (mm_st2_c ad lv _ (.long v)).symm (fun ls hl => (hgo _ _ _ _ _ _ _ h hP hS hl))
  | lstore k =>
    obtain ⟨rfl, hn, h⟩ := h
    obtain ⟨v, r, rfl, h⟩ := mm_l_e h
    exact lv_lstore hx hb hd hl hn (mm_st2_c ad lv _ (.long v)).symm (fun ls hl => (hgo _ _ _ _ _ _ _ h hP hS hl))
  | astore_n k =>
    obtain ⟨rfl, hn, h⟩ := h
    obtain ⟨v, r, rfl, h⟩ := mm_r_e h
    exact lv_astore_n hx hb hd rfl hl hn (mm_st1_c ad lv _ (.ref v)).symm (fun ls hl => (hgo _ _ _ _ _ _ _ h hP hS hl))
  | astore k =>
    obtain ⟨rfl, hn, h⟩ := h
    obtain ⟨v, r, rfl, h⟩ := mm_r_e h
    exact lv_astore hx hb hd hl hn (mm_st1_c ad lv _ (.ref v)).symm (fun ls hl => (hgo _ _ _ _ _ _ _ h hP hS hl))
  | iinc k v =>
    obtain ⟨rfl, hn, h⟩ := h
    obtain ⟨u, hu, h⟩ := mm_ldi_e h
    obtain ⟨j, hj⟩ := List.getElem?_of_mem (List.mem_map_of_mem (f := mm_cq ad) hu)
    exact lv_iinc hx hb hd hl hj rfl hn (mm_st1_c ad lv _ (.int (u + Int32.ofInt v))).symm (fun ls hl => (hgo _ _ _ _ _ _ _ h hP hS hl))
  | iadd =>
    obtain ⟨rfl, h⟩ := h
    obtain ⟨a, b, r, rfl, h⟩ := mm_ii_e h
    exact lv_iadd hx hb hd (hgo _ _ _ _ _ _ _ h hP hS hl)
  | isub =>
    obtain ⟨rfl, h⟩ := h
    obtain ⟨a, b, r, rfl, h⟩ := mm_ii_e h
    exact lv_isub hx hb hd (hgo _ _ _ _ _ _ _ h hP hS hl)
  | imul =>
    obtain ⟨rfl, h⟩ := h
    obtain ⟨a, b, r, rfl, h⟩ := mm_ii_e h
    exact lv_imul hx hb hd (hgo _ _ _ _ _ _ _ h hP hS hl)
  | iand =>
    obtain ⟨rfl, h⟩ := h
    obtain ⟨a, b, r, rfl, h⟩ := mm_ii_e h
    exact lv_iand hx hb hd (hgo _ _ _ _ _ _ _ h hP hS hl)
  | ior =>
    obtain ⟨rfl, h⟩ := h
    obtain ⟨a, b, r, rfl, h⟩ := mm_ii_e h
    exact lv_ior hx hb hd (hgo _ _ _ _ _ _ _ h hP hS hl)
  | ixor =>
    obtain ⟨rfl, h⟩ := h
    obtain ⟨a, b, r, rfl, h⟩ := mm_ii_e h
    exact lv_ixor hx hb hd (hgo _ _ _ _ _ _ _ h hP hS hl)
  | ishl =>
    obtain ⟨rfl, h⟩ := h
    obtain ⟨a, b, r, rfl, h⟩ := mm_ii_e h
    exact lv_ishl hx hb hd (hgo _ _ _ _ _ _ _ h hP hS hl)
  | ishr =>
    obtain ⟨rfl, h⟩ := h
    obtain ⟨a, b, r, rfl, h⟩ := mm_ii_e h
    exact lv_ishr hx hb hd (hgo _ _ _ _ _ _ _ h hP hS hl)
  | iushr =>
    obtain ⟨rfl, h⟩ := h
    obtain ⟨a, b, r, rfl, h⟩ := mm_ii_e h
    exact lv_iushr hx hb hd rfl (hgo _ _ _ _ _ _ _ h hP hS hl)
  | idiv =>
    obtain ⟨rfl, h⟩ := h
    obtain ⟨a, b, r, rfl, hne, h⟩ := mm_ii_e h
    exact lv_idiv hx hb hd hne (hgo _ _ _ _ _ _ _ h hP hS hl)
  | irem =>
    obtain ⟨rfl, h⟩ := h
    obtain ⟨a, b, r, rfl, hne, h⟩ := mm_ii_e h
    exact lv_irem hx hb hd hne (hgo _ _ _ _ _ _ _ h hP hS hl)
  | ineg =>
    obtain ⟨rfl, h⟩ := h
    obtain ⟨a, r, rfl, h⟩ := mm_i_e h
    exact lv_ineg hx hb hd (hgo _ _ _ _ _ _ _ h hP hS hl)
  | ladd =>
    obtain ⟨rfl, h⟩ := h
    obtain ⟨a, b, r, rfl, h⟩ := mm_ll_e h
    exact lv_ladd hx hb hd (hgo _ _ _ _ _ _ _ h hP hS hl)
  | lsub =>
    obtain ⟨rfl, h⟩ := h
    obtain ⟨a, b, r, rfl, h⟩ := mm_ll_e h
    exact lv_lsub hx hb hd (hgo _ _ _ _ _ _ _ h hP hS hl)
  | lmul =>
    obtain ⟨rfl, h⟩ := h
    obtain ⟨a, b, r, rfl, h⟩ := mm_ll_e h
    exact lv_lmul hx hb hd (hgo _ _ _ _ _ _ _ h hP hS hl)
  | land =>
    obtain ⟨rfl, h⟩ := h
    obtain ⟨a, b, r, rfl, h⟩ := mm_ll_e h
    exact lv_land hx hb hd (hgo _ _ _ _ _ _ _ h hP hS hl)
  | lor =>
    obtain ⟨rfl, h⟩ := h
    obtain ⟨a, b, r, rfl, h⟩ := mm_ll_e h
    exact lv_lor hx hb hd (hgo _ _ _ _ _ _ _ h hP hS hl)
  | lxor =>
    obtain ⟨rfl, h⟩ := h
    obtain ⟨a, b, r, rfl, h⟩ := mm_ll_e h
    exact lv_lxor hx hb hd (hgo _ _ _ _ _ _ _ h hP hS hl)
  | lshl =>
    obtain ⟨rfl, h⟩ := h
    obtain ⟨a, b, r, rfl, h⟩ := mm_li_e h
    exact lv_lshl hx hb hd rfl (hgo _ _ _ _ _ _ _ h hP hS hl)
  | lshr =>
    obtain ⟨rfl, h⟩ := h
    obtain ⟨a, b, r, rfl, h⟩ := mm_li_e h
    exact lv_lshr hx hb hd rfl (hgo _ _ _ _ _ _ _ h hP hS hl)
  | lushr =>
    obtain ⟨rfl, h⟩ := h
    obtain ⟨a, b, r, rfl, h⟩ := mm_li_e h
    exact lv_lushr hx hb hd rfl (hgo _ _ _ _ _ _ _ h hP hS hl)
  | i2l =>
    obtain ⟨rfl, h⟩ := h
    obtain ⟨a, r, rfl, h⟩ := mm_i_e h
    exact lv_i2l hx hb hd rfl (hgo _ _ _ _ _ _ _ h hP hS hl)
  | l2i =>
    obtain ⟨rfl, h⟩ := h
    obtain ⟨a, r, rfl, h⟩ := mm_l_e h
    exact lv_l2i hx hb hd rfl (hgo _ _ _ _ _ _ _ h hP hS hl)
  | i2b =>
    obtain ⟨rfl, h⟩ := h
    obtain ⟨a, r, rfl, h⟩ := mm_i_e h
    exact lv_i2b hx hb hd rfl (hgo _ _ _ _ _ _ _ h hP hS hl)
  | lcmp =>
    obtain ⟨rfl, h⟩ := h
    obtain ⟨a, b, r, rfl, h⟩ := mm_ll_e h
    exact W.lcmp hx hb hd (hgo _ _ _ _ _ _ _ h hP hS hl)
  | dup =>
    obtain ⟨rfl, h⟩ := h
    obtain ⟨v, r, rfl, hc, h⟩ := mm_v_e h
    exact lv_dup hx hb hd (by rw [mm_cat]; exact hc) (hgo _ _ _ _ _ _ _ h hP hS hl)
  | dup2 =>
    obtain ⟨rfl, h⟩ := h
    obtain ⟨v, w, r, rfl, hc, hc2, h⟩ := mm_vv_e h
    exact lv_dup2_11 hx hb hd (by rw [mm_cat]; exact hc) (by rw [mm_cat]; exact hc2) (hgo _ _ _ _ _ _ _ h hP hS hl)
  | pop =>
    obtain ⟨rfl, h⟩ := h
    obtain ⟨v, r, rfl, hc, h⟩ := mm_v_e h
    exact lv_pop hx hb hd (by rw [mm_cat]; exact hc) (hgo _ _ _ _ _ _ _ h hP hS hl)
  | if_icmp cnd o =>
    obtain ⟨rfl, ho, h⟩ := h
    obtain ⟨a, b, r, rfl, ht, hf⟩ := mm_ii_e h
    have et : (pc : Int) + o = ((((pc : Int) + o).toNat : Nat) : Int) := (Int.toNat_of_nonneg ho).symm
    cases cnd with
    | eq => exact lv_icmp_eq hx hb hd et (fun q => hgo _ _ _ _ _ _ _ (ht q) hP hS hl) (fun q => (hgo _ _ _ _ _ _ _ (hf q) hP hS hl))
    | ne => exact lv_icmp_ne hx hb hd et (fun q => hgo _ _ _ _ _ _ _ (ht q) hP hS hl) (fun q => (hgo _ _ _ _ _ _ _ (hf (fun z => z q)) hP hS hl))
    | lt => exact lv_icmp_lt hx hb hd et (fun q => hgo _ _ _ _ _ _ _ (ht q) hP hS hl) (fun q => (hgo _ _ _ _ _ _ _ (hf q) hP hS hl))
    | ge => exact lv_icmp_ge hx hb hd et (fun q => hgo _ _ _ _ _ _ _ (ht q) hP hS hl) (fun q => (hgo _ _ _ _ _ _ _ (hf q) hP hS hl))
    | gt => exact lv_icmp_gt hx hb hd et (fun q => hgo _ _ _ _ _ _ _ (ht q) hP hS hl) (fun q => (hgo _ _ _ _ _ _ _ (hf q) hP hS hl))
    | le => exact lv_icmp_le hx hb hd et (fun q => hgo _ _ _ _ _ _ _ (ht q) hP hS hl) (fun q => (hgo _ _ _ _ _ _ _ (hf q) hP hS hl))
  | ifCond cnd o =>
    obtain ⟨rfl, ho, h⟩ := h
    obtain ⟨a, r, rfl, ht, hf⟩ := mm_i_e h
    have et : (pc : Int) + o = ((((pc : Int) + o).toNat : Nat) : Int) := (Int.toNat_of_nonneg ho).symm
    cases cnd with
    | eq => exact lv_if_eq hx hb hd et (fun q => hgo _ _ _ _ _ _ _ (ht q) hP hS hl) (fun q => (hgo _ _ _ _ _ _ _ (hf q) hP hS hl))
    | ne => exact lv_if_ne hx hb hd et (fun q => hgo _ _ _ _ _ _ _ (ht q) hP hS hl) (fun q => (hgo _ _ _ _ _ _ _ (hf (fun z => z q)) hP hS hl))
    | lt => exact lv_if_lt hx hb hd et (fun q => hgo _ _ _ _ _ _ _ (ht q) hP hS hl) (fun q => (hgo _ _ _ _ _ _ _ (hf q) hP hS hl))
    | ge => exact lv_if_ge hx hb hd et (fun q => hgo _ _ _ _ _ _ _ (ht q) hP hS hl) (fun q => (hgo _ _ _ _ _ _ _ (hf q) hP hS hl))
    | gt => exact lv_if_gt hx hb hd et (fun q => hgo _ _ _ _ _ _ _ (ht q) hP hS hl) (fun q => (hgo _ _ _ _ _ _ _ (hf q) hP hS hl))
    | le => exact lv_if_le hx hb hd et (fun q => hgo _ _ _ _ _ _ _ (ht q) hP hS hl) (fun q => (hgo _ _ _ _ _ _ _ (hf q) hP hS hl))
  | goto o =>
    obtain ⟨rfl, ho, h⟩ := h
    exact lv_goto hx hb hd (Int.toNat_of_nonneg ho).symm (hgo _ _ _ _ _ _ _ h hP hS hl)
  | tableswitch d lo hi os =>
    obtain ⟨a, r, rfl, hd1, hsz, hlh, htab⟩ := mm_i_e h
    by_cases h1 : a.toInt < lo ∨ hi < a.toInt
    · obtain ⟨ho, h⟩ := hd1 h1
      exact lv_tableOut hx hb hd h1 (Int.toNat_of_nonneg ho).symm (hgo _ _ _ _ _ _ _ h hP hS hl)
    · have h2 : ¬ a.toInt < lo := fun q => h1 (Or.inl q)
      have h3 : ¬ hi < a.toInt := fun q => h1 (Or.inr q)
      have hlt : (a.toInt - lo).toNat < os.size := by omega
      obtain ⟨ho, h⟩ := mm_tab_e htab (a.toInt - lo).toNat (os[(a.toInt - lo).toNat]'hlt) (by simp [hlt]) (by omega)
      exact lv_tableIn hx hb hd h2 h3 (by simp [hlt]) (Int.toNat_of_nonneg ho).symm (hgo _ _ _ _ _ _ _ h hP hS hl)
  | getfield k =>
    obtain ⟨rfl, h⟩ := h
    obtain ⟨a, r, rfl, h⟩ := mm_r_e h
    obtain ⟨q, hq, hci, h⟩ := mm_o_e h
    obtain ⟨d, hfd, h⟩ := mm_o_e h
    obtain ⟨o, ho, ho1, ho2⟩ := mm_cell hci hfd
    have hWk := mm_W_obj tC ad x ho
    have hv : (o.2.map (fun d => mm_cv ad (mm_fv x d)))[q.2.1]? = some (mm_cv ad (mm_fv x d)) := by rw [List.getElem?_map, ho2]; rfl
    obtain ⟨C, T, N, ty0, hc, hk, hin, hty, hnm, hlk, hw⟩ := hF _ _ hq
    rw [← ho1] at hc
    rcases hlk with hlk | ⟨host, hlk⟩
    · exact va_get hx hb hts hin hown hK hP a hWk hc q.2.1 hk hlk (fun _ h9 => h9) hv hd (hgo _ _ _ _ _ _ _ h hP hS hl)
    · exact va_getN hx hb hts hin hown hK hP a hWk hc q.2.1 hk hlk (fun _ h9 => h9) hv hd (hgo _ _ _ _ _ _ _ h hP hS hl)
  | putfield k =>
    obtain ⟨rfl, h⟩ := h
    obtain ⟨v, a, r, rfl, h⟩ := mm_vr_e h
    obtain ⟨q, hq, hci, h⟩ := mm_o_e h
    obtain ⟨d, hfd, h⟩ := mm_o_e h
    obtain ⟨x', hd0, hv0, ht3, hnar, hfit, hfv, harr, h⟩ := mm_put_e (ad := ad) h
    obtain ⟨o, ho, ho1, ho2⟩ := mm_cell hci hfd
    have hWk := mm_W_obj tC ad x ho
    have eW := mm_W_set hu ho ho2 hd0 (x := x) (x' := x') tC ad hfv harr
    have hlen : q.2.1 < (o.2.map (fun d => mm_cv ad (mm_fv x d))).length := by rw [List.length_map]; exact (List.getElem?_eq_some_iff.mp ho2).1
    obtain ⟨C, T, N, ty0, hc, hk, hin, hty, hnm, hlk, hw⟩ := hF _ _ hq
    obtain ⟨hfin, hpd⟩ := hw ht3
    rw [← ho1] at hc
    rw [hv0] at eW
    rcases hlk with hlk | ⟨host, hlk⟩
    · exact va_put hx hb hts hin ty0 hty hnm hown hK hP (mm_W_D tC L x hDa) hS a hWk hc q.2.1 hk hlk (fun _ h9 => h9) hfin hpd hnar hfit hlen hd (fun H1 locs1 hP1 _ hS1 => hgo _ _ _ _ _ _ _ h (by rw [eW]; exact hP1) hS1 hl)
    · exact va_putN hx hb hts hin ty0 hty hnm hown hK hP (mm_W_D tC L x hDa) hS a hWk hc q.2.1 hk hlk (fun _ h9 => h9) hfin hpd hnar hfit hlen hd (fun H1 locs1 hP1 _ hS1 => hgo _ _ _ _ _ _ _ h (by rw [eW]; exact hP1) hS1 hl)
  | baload =>
    obtain ⟨rfl, h⟩ := h
    obtain ⟨a, j, r, rfl, h⟩ := mm_ri_e h
    obtain ⟨q, hq, h0, hin, h⟩ := mm_o_e h
    have hWk := mm_W_ary tC ad x hq
    rw [h0] at hWk
    exact va_bald hx hb hK hP a 0 hWk rfl hin hd (hgo _ _ _ _ _ _ _ h hP hS hl)
  | iaload =>
    obtain ⟨rfl, h⟩ := h
    obtain ⟨a, j, r, rfl, h2⟩ := mm_ri_e h
    split at h2
    next ha =>
      subst ha
      obtain ⟨q, hq, hin, h⟩ := mm_o_e h2
      obtain ⟨hX1, hbl, hbA⟩ := hX q hq
      exact va_sld hx hb hX1 hbl hbA hS hin hd (hgo _ _ _ _ _ _ _ h hP hS hl)
    next =>
      obtain ⟨q, hq, h0, hin, h⟩ := mm_o_e h2
      have hWk := mm_W_ary tC ad x hq
      rw [h0] at hWk
      exact va_iald hx hb hK hP a 1 hWk rfl hin hd (hgo _ _ _ _ _ _ _ h hP hS hl)
  | bastore =>
    obtain ⟨rfl, h⟩ := h
    obtain ⟨a, j, d, r, rfl, h⟩ := mm_rii_e h
    obtain ⟨q, hq, h0, hin, h⟩ := mm_o_e h
    have hWk := mm_W_ary tC ad x hq
    have eW := mm_W_arr hu (mm_ar_e hq) (x := x) (upd (x.2.2 q.2.2) j.toNatClampNeg (vp_nar .byte d)) tC ad
    rw [h0] at hWk eW
    exact va_bast hx hb hK hP (mm_W_D tC L x hDa) hS a 0 hWk rfl hin hd (fun H1 locs1 hP1 _ hS1 => hgo _ _ _ _ _ _ _ h (by rw [eW]; exact hP1) hS1 hl)
  | iastore =>
    obtain ⟨rfl, h⟩ := h
    obtain ⟨a, j, d, r, rfl, h⟩ := mm_rii_e h
    obtain ⟨q, hq, h0, hin, h⟩ := mm_o_e h
    have hWk := mm_W_ary tC ad x hq
    have eW := mm_W_arr hu (mm_ar_e hq) (x := x) (upd (x.2.2 q.2.2) j.toNatClampNeg d) tC ad
    rw [h0] at hWk eW
    exact va_iast hx hb hK hP (mm_W_D tC L x hDa) hS a 1 hWk rfl hin hd (fun H1 locs1 hP1 _ hS1 => hgo _ _ _ _ _ _ _ h (by rw [eW]; exact hP1) hS1 hl)
  | arraylength =>
    obtain ⟨rfl, h⟩ := h
    obtain ⟨a, r, rfl, h2⟩ := mm_r_e h
    split at h2
    next ha =>
      subst ha
      obtain ⟨q, hq, h⟩ := mm_o_e h2
      obtain ⟨hX1, hbl, hbA⟩ := hX q hq
      exact va_slen hx hb hX1 hbl hbA hS hd (hgo _ _ _ _ _ _ _ h hP hS hl)
    next =>
      obtain ⟨q, hq, h0, h⟩ := mm_o_e h2
      have hWk := mm_W_ary tC ad x hq
      rcases (show q.1 = 0 ∨ q.1 = 1 by omega) with h1 | h1
      · rw [h1] at hWk
        exact va_alen hx hb hK hP a 0 hWk (ty := .byte) rfl rfl hd (hgo _ _ _ _ _ _ _ h hP hS hl)
      · rw [h1] at hWk
        exact va_alen hx hb hK hP a 1 hWk (ty := .int) rfl rfl hd (hgo _ _ _ _ _ _ _ h hP hS hl)
  | invokestatic k =>
    obtain ⟨rfl, h⟩ := h
    obtain ⟨q, hq, hle, hcat, h⟩ := mm_o_e h
    have e1 : st = (st.take q.1).reverse.reverse ++ st.drop q.1 := by rw [List.reverse_reverse, List.take_append_drop]
    have hc := hCS _ _ hq x _ (st.drop q.1) _ H locs pc ls h (by rw [List.length_reverse, List.length_take]; omega) hcat trivial hP hS hl.1 hd (fun r x' H1 locs1 hk hP1 hS1 => hgo _ _ _ _ _ _ _ hk hP1 hS1 hl)
    rw [← e1] at hc
    exact hc
  | invokevirtual k =>
    obtain ⟨rfl, h⟩ := h
    obtain ⟨q, hq, hle, hcat, hrc, h⟩ := mm_o_e h
    have e1 : st = (st.take q.1).reverse.reverse ++ st.drop q.1 := by rw [List.reverse_reverse, List.take_append_drop]
    have hc := hCV _ _ hq x _ (st.drop q.1) _ H locs pc ls h (by rw [List.length_reverse, List.length_take]; omega) hcat hrc hP hS hl.1 hd (fun r x' H1 locs1 hk hP1 hS1 => hgo _ _ _ _ _ _ _ hk hP1 hS1 hl)
    rw [← e1] at hc
    exact hc
  | ireturn =>
    obtain ⟨rfl, h⟩ := h
    obtain ⟨ty, hty, h⟩ := mm_o_e h
    obtain ⟨v, rfl, hn, h⟩ := mm_reti_e h
    exact hRi _ _ _ _ _ _ _ hP hS hd hty hn h
  | lreturn =>
    obtain ⟨rfl, hty, h⟩ := h
    obtain ⟨v, rfl, h⟩ := mm_retl_e h
    exact hRl _ _ _ _ _ _ hP hS hd hty h
  | return_ =>
    obtain ⟨rfl, hty, rfl, h⟩ := h
    exact hRv _ _ _ _ _ hP hS hd hty h
  | _ => exact False.elim h
end MM
