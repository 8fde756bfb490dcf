/-! Contracts over the abstract machine: mm_Con, the calls that use one, and mm_con: a contract out of the condition mm_vc
(with cut places: a loop's head, where the invariant stands with a measure that falls). -/
def mm_Q (D : va_G) (cl : List vw_C) (tC : Nat → ClassId) (ad : Nat → Nat) (L : mm_L) (x : mm_S) (sz : Nat) (Kc : mm_K) : Array Value → State → Outcome → State → Prop := fun _ st oc t =>
  (∃ (r : Option Value) (x' : mm_S), oc = .returned (r.map (mm_cv ad)) ∧ Kc r x' ∧ va_P D cl (mm_W tC ad L x') t.heap) ∧ va_F (va_A (mm_W tC ad L x) sz) st t
def mm_isN (w : Cond) : Bool := match w with
  | .fieldLinkNest .. => true
  | .methodLinkNest .. => true
  | _ => false
def mm_NW (nws : List Cond) (U : State) : Prop := ∀ w ∈ nws, va_Nw w U
theorem mm_NW_warm {nws : List Cond} {s U : State} (hn : ∀ w ∈ nws, mm_isN w = true) (hW : s.WarmedH U.vm) (h : mm_NW nws s) : mm_NW nws U := by
  intro w hw
  have h1 := hn w hw
  have h2 := h w hw
  revert h1 h2
  cases w <;> intro h1 h2 <;> first | exact va_Nw.warmF hW h2 | exact va_Nw.warmM hW h2 | cases h1
theorem mm_NW_same {nws : List Cond} {s U : State} (hn : ∀ w ∈ nws, mm_isN w = true) (hv : s.vm = U.vm) (h : mm_NW nws s) : mm_NW nws U := by
  intro w hw
  have h1 := hn w hw
  have h2 := h w hw
  revert h1 h2
  cases w <;> intro h1 h2 <;> first | exact va_Nw.same rfl hv h2 | cases h1
def mm_Pc (nws : List Cond) (cl : List vw_C) (D : va_G) (tC : Nat → ClassId) (ad : Nat → Nat) (L : mm_L) (as : List Value) (x : mm_S) (sz : Nat) : Array Value → State → Prop :=
  va_Pc (as.map (mm_cv ad)) (fun U => U.heap.size = sz ∧ va_P D cl (mm_W tC ad L x) U.heap ∧ va_K D cl (mm_tys tC) U ∧ va_D (fun _ => True) (mm_W tC ad L x) ∧ mm_Da (fun _ => True) ad L.length ∧ mm_NW nws U)
theorem mm_blind {nws : List Cond} {cl : List vw_C} {D : va_G} {tC : Nat → ClassId} {ad : Nat → Nat} {L : mm_L} {as : List Value} {x : mm_S} {sz : Nat} (hn : ∀ w ∈ nws, mm_isN w = true) : FrameBlind (mm_Pc nws cl D tC ad L as x sz) := by
  intro a U g mk q
  obtain ⟨q0, q1, qP, qK, qD, qd, qN⟩ := q
  exact ⟨q0, q1, qP, va_K.moved (u := U) (U := U.calling g mk a) (Vm.Alike.refl U.vm) qK, qD, qd, mm_NW_same (s := U) (U := U.calling g mk a) hn rfl qN⟩
/-- a method's contract: its answer and the registers behind it are what S says -/
def mm_Con (l : Launch) (nws : List Cond) (cl : List vw_C) (TB : List Cond) (L : mm_L) (y : MethodName) (bytes : ByteArray) (maxL : Nat) (ret : Option FieldType) (rm : Room) (S : mm_P) : Prop :=
  ∀ (D : va_G) (tC : Nat → ClassId) (ad : Nat → Nat) (as : List Value) (x : mm_S) (sz : Nat) (Kc : mm_K), S as x Kc → Met l y (.code y bytes maxL ret :: TB) rm (mm_Pc nws cl D tC ad L as x sz) (mm_Q D cl tC ad L x sz Kc) 0 0 (va_A (mm_W tC ad L x) sz)
def mm_CB (own : String) (TB nws : List Cond) (idx fr lo : Nat) (y : MethodName) (bytes : ByteArray) (maxL : Nat) (ret : Option FieldType) (rm : Room) (np : Nat) : Prop :=
  rm.cells = 0 ∧ rm.slots = 0 ∧ rm.frames + 1 ≤ fr ∧ 8 + (maxL + 11) + rm.locals ≤ lo ∧ Cond.code y bytes maxL ret ∈ TB ∧ Cond.initialized y.cls ∈ TB ∧ (y.cls ≠ "java/lang/invoke/MethodHandle" ∧ y.cls ≠ "java/lang/invoke/VarHandle" ∧ (parseMethodDescriptor y.desc).map (fun d => d.parameters.length) = some np) ∧ (Cond.methodLink own idx y ∈ TB ∨ ∃ host, Cond.methodLinkNest own idx y host ∈ nws)
def mm_Cst (l : Launch) (nws : List Cond) (cl : List vw_C) (TB : List Cond) (L : mm_L) (own : String) (fr lo : Nat) (idx : Nat) (q : Nat × mm_P) : Prop :=
  ∃ (y : MethodName) (bytes : ByteArray) (maxL : Nat) (ret : Option FieldType) (rm : Room), mm_Con l nws cl TB L y bytes maxL ret rm q.2 ∧ mm_CB own TB nws idx fr lo y bytes maxL ret rm q.1 ∧ Cond.static y ∈ TB
def mm_Cvt (l : Launch) (nws : List Cond) (cl : List vw_C) (TB : List Cond) (L : mm_L) (own : String) (fr lo : Nat) (idx : Nat) (q : Nat × Nat × mm_P) : Prop :=
  ∃ (y : MethodName) (bytes : ByteArray) (maxL : Nat) (ret : Option FieldType) (rm : Room) (np : Nat) (T : u_T) (N : Nat), mm_Con l nws cl TB L y bytes maxL ret rm q.2.2 ∧ q.1 = np + 1 ∧ mm_CB own TB nws idx fr lo y bytes maxL ret rm np ∧ cl[q.2.1]? = some (y.cls, T, N) ∧ Cond.instanceMethod y ∈ TB ∧ Cond.selects y.cls y y ∈ TB
def mm_fSt (cl : List vw_C) (TB nws : List Cond) (own : String) (idx : Nat) (q : Nat × Nat × Nat) : Prop :=
  ∃ (C : String) (T : u_T) (N : Nat) (ty0 : Nat → FieldType), cl[q.1]? = some (C, T, N) ∧ q.2.1 < N ∧ (∀ w ∈ u_ws C T N, w ∈ TB) ∧ (∀ k, k < N → parseFieldDescriptor (T k).2.2.1 = some (ty0 k)) ∧ (∀ a, a < N → ∀ b, b < N → a ≠ b → (T a).2.1 ≠ (T b).2.1) ∧
  (Cond.fieldLink own idx (T q.2.1).1 (T q.2.1).2.1 (T q.2.1).2.2.1 ∈ TB ∨ ∃ host, Cond.fieldLinkNest own idx (T q.2.1).1 (T q.2.1).2.1 (T q.2.1).2.2.1 host ∈ nws) ∧
  (q.2.2 ≠ 3 → (T q.2.1).2.2.2 = false ∧ parseFieldDescriptor (T q.2.1).2.2.1 = some (mm_ty q.2.2))
theorem mm_cats (ad : Nat → Nat) (rest : List Value) : ((rest.map (mm_cv ad)).map fun v => v.category).sum = (rest.map Value.category).sum := by
  rw [List.map_map]
  congr 1
  apply List.map_congr_left
  intro v _
  exact mm_cat ad v
theorem mm_ret_st (ad : Nat → Nat) (r : Option Value) (rest : List Value) : (mm_push r rest).map (mm_cv ad) = (r.map (mm_cv ad)).toList ++ rest.map (mm_cv ad) := by
  cases r <;> simp [mm_push]
section MN
variable {p : Program} {l : Launch} {e : Env} {R : Room} {s : State} {m : MethodId} {args : Array Value} {below : List Frame} {meth : Method} {c : Code} {cells slots : Nat} {Q : State → Prop} {cc : ByteArray} {D : va_G} {cl : List vw_C} {A : Nat → Prop} {H0 : Heap} {tC : Nat → ClassId} {ad : Nat → Nat} {L : mm_L} {nL : Nat} {Ts : List Cond} {own : String}
theorem mm_call {H : Heap} {locs : List Loc} {pc : Nat} {ls : Array Slot} {st0 rest : List Value} {x : mm_S} {Kc : mm_K} {a : Array Value} (hr : va_Run p l e R s m args below meth c H locs cells slots 0 0 (F0 m pc ls st0) rest (mm_Q D cl tC ad L x H.size Kc a) (va_A (mm_W tC ad L x) H.size)) (hS : va_S A H0 H locs) (hsub : ∀ q, va_A (mm_W tC ad L x) H.size q → A q)
    (kk : ∀ (r : Option Value) (x' : mm_S) (H1 : Heap) (locs1 : List Loc), Kc r x' → va_P D cl (mm_W tC ad L x') H1 → va_S A H0 H1 locs1 → W p l e R s m args below meth c H1 locs1 cells slots Q (F0 m (pc + 3) ls ((r.map (mm_cv ad)).toList ++ rest))) : W p l e R s m args below meth c H locs cells slots Q (F0 m pc ls st0) := by
  intro T hT X
  obtain ⟨v, st₀, t, T', L', h0, X', hL, e1, e2, ⟨⟨r, x', hv, hk, hP⟩, hz, hkp⟩, st⟩ := hr T hT X
  cases hv
  rw [h0] at hz hkp
  obtain ⟨t2, a1, b1⟩ := kk r x' T'.heap (locs ++ L') hk (by rw [e1]; exact hP) ⟨Nat.le_trans hS.1 (by rw [e1]; exact hz), fun q h1 h2 => by rw [e1, hkp q (Nat.lt_of_lt_of_le h1 hS.1) (fun z => h2 (hsub q z))]; exact hS.2.1 q h1 h2, fun q hq => by
      rcases List.mem_append.mp hq with h | h
      · exact hS.2.2 q h
      · exact hsub _ (hL q h)⟩ T' rfl X'
  exact ⟨t2, st t2 a1, b1⟩
theorem mm_sub {H : Heap} {locs : List Loc} {ws : va_W} (hD : va_D A ws) (hS : va_S A H0 H locs) (hA : ∀ q, H0.size ≤ q → A q) : ∀ q, va_A ws H.size q → A q := by
  intro q h
  rcases h with ⟨k, e, h⟩ | h
  · exact hD.2 k (q, e) h
  · exact hA q (Nat.le_trans hS.1 h)
theorem mm_cS {nws TB : List Cond} {y : MethodName} {bytes : ByteArray} {maxL : Nat} {ret : Option FieldType} {rm : Room} {S : mm_P} {idx n : Nat} (hx : p.tables.exec = Jvm.exec) (hb : c.code = cc) (hml : c.maxLocals = nL) (hown : s.vm.findClass own = some m.cls) (hts : ∀ w ∈ TB, w.before args s = true) (hG : GoodIn TB TB) (hM : mm_Con l nws cl TB L y bytes maxL ret rm S) (hCB : mm_CB own TB nws idx R.frames R.locals y bytes maxL ret rm n) (hst : Cond.static y ∈ TB)
    (hK : va_K D cl (mm_tys tC) s) (hDa : mm_Da A ad L.length) (hA : ∀ q, H0.size ≤ q → A q) (hn : ∀ w ∈ nws, mm_isN w = true) (hNW : mm_NW nws s) (hcs : cells ≤ R.cells ∧ slots ≤ R.slots) : mm_cOk p l e R s m args below meth c cells slots Q cc D cl A H0 tC ad L nL (.invokestatic idx) n (fun _ => True) S := by
  obtain ⟨hrc, hrs, hfr, hlo, hcode, hini, hd, hlk⟩ := hCB
  have hG2 : GoodIn TB (.code y bytes maxL ret :: TB) := fun w hw => by
    rcases List.mem_cons.mp hw with rfl | h
    · exact hG _ hcode
    · exact hG _ h
  intro x as rest Kc H locs pc ls hs hln hcat _ hP hS hsz hdg kk
  have hD := mm_W_D tC L x hDa
  have hpre : PreS s H (mm_Pc nws cl D tC ad L as x H.size) (as.map (mm_cv ad)) := ⟨mm_blind hn, fun U hU hW => ⟨rfl, by rw [hU], by rw [hU]; exact hP, va_K.moved hW.alike hK, hD.weaken (fun _ _ _ _ => trivial), ⟨hDa.1, fun _ _ => trivial⟩, mm_NW_warm hn hW hNW⟩⟩
  have kk' : ∀ (r : Option Value) (x' : mm_S) (H1 : Heap) (locs1 : List Loc), Kc r x' → va_P D cl (mm_W tC ad L x') H1 → va_S A H0 H1 locs1 → W p l e R s m args below meth c H1 locs1 cells slots Q (F0 m (pc + 3) ls ((r.map (mm_cv ad)).toList ++ rest.map (mm_cv ad))) := fun r x' H1 locs1 h1 h2 h3 => by
    have h4 := kk r x' H1 locs1 h1 h2 h3
    rwa [mm_ret_st] at h4
  rw [show (as.reverse ++ rest).map (mm_cv ad) = (as.map (mm_cv ad)).reverse ++ rest.map (mm_cv ad) by simp]
  have hroom : (List.map (fun v => v.category) (rest.map (mm_cv ad))).sum ≤ 8 := by rw [mm_cats]; exact hcat
  rcases hlk with hlk | ⟨host, hlk⟩
  · exact mm_call (va_runS (As := as.map (mm_cv ad)) (n := n) (Ts := TB) (own := own) ⟨hx, hb, hml, hown, hts⟩ (hM D tC ad as x H.size Kc hs) ⟨callB_of n hts hG2 rfl hrc hrs (hts _ hini) (hts _ hlk) hd ⟨hfr, hlo⟩, hts _ hst⟩ hpre rfl (by rw [List.length_map]; exact hln) hsz rfl (lv_room hroom) hdg hcs) hS (mm_sub hD hS hA) kk'
  · exact mm_call (va_runSN (As := as.map (mm_cv ad)) (n := n) (Ts := TB) (own := own) (host := host) ⟨hx, hb, hml, hown, hts⟩ (hM D tC ad as x H.size Kc hs) ⟨va_cnB n hts hG2 rfl hrc hrs (hNW _ hlk) (hts _ hini) hd ⟨hfr, hlo⟩, hts _ hst, trivial⟩ hpre rfl (by rw [List.length_map]; exact hln) hsz rfl (lv_room hroom) hdg hcs) hS (mm_sub hD hS hA) kk'
theorem mm_cV {nws TB : List Cond} {y : MethodName} {bytes : ByteArray} {maxL : Nat} {ret : Option FieldType} {rm : Room} {S : mm_P} {idx np ci N : Nat} {T : u_T} (hx : p.tables.exec = Jvm.exec) (hb : c.code = cc) (hml : c.maxLocals = nL) (hown : s.vm.findClass own = some m.cls) (hts : ∀ w ∈ TB, w.before args s = true) (hG : GoodIn TB TB) (hM : mm_Con l nws cl TB L y bytes maxL ret rm S) (hCB : mm_CB own TB nws idx R.frames R.locals y bytes maxL ret rm np) (hcl : cl[ci]? = some (y.cls, T, N)) (hinst : Cond.instanceMethod y ∈ TB) (hsel : Cond.selects y.cls y y ∈ TB)
    (hK : va_K D cl (mm_tys tC) s) (hDa : mm_Da A ad L.length) (hA : ∀ q, H0.size ≤ q → A q) (hn : ∀ w ∈ nws, mm_isN w = true) (hNW : mm_NW nws s) (hcs : cells ≤ R.cells ∧ slots ≤ R.slots) : mm_cOk p l e R s m args below meth c cells slots Q cc D cl A H0 tC ad L nL (.invokevirtual idx) (np + 1) (mm_rcv L ci) S := by
  obtain ⟨hrc, hrs, hfr, hlo, hcode, hini, hd, hlk⟩ := hCB
  have hG2 : GoodIn TB (.code y bytes maxL ret :: TB) := fun w hw => by
    rcases List.mem_cons.mp hw with rfl | h
    · exact hG _ hcode
    · exact hG _ h
  intro x as rest Kc H locs pc ls hs hln hcat hrcv hP hS hsz hdg kk
  have hD := mm_W_D tC L x hDa
  unfold mm_rcv at hrcv
  split at hrcv
  next k as' =>
    have hcell : ∃ o : Nat × List (Nat × Nat), L[k]? = some (.inr o) ∧ o.1 = ci := by
      unfold mm_ci at hrcv
      split at hrcv
      next o ho => exact ⟨o, ho, Option.some.inj hrcv⟩
      next => cases hrcv
    obtain ⟨o, ho, rfl⟩ := hcell
    have hpre : PreV s H y.cls (ad k) (mm_Pc nws cl D tC ad L (.ref k :: as') x H.size) (as'.map (mm_cv ad)) := ⟨mm_blind hn, va_recv hK hP hcl (mm_W_obj tC ad x ho), fun U hU hW => ⟨rfl, by rw [hU], by rw [hU]; exact hP, va_K.moved hW.alike hK, hD.weaken (fun _ _ _ _ => trivial), ⟨hDa.1, fun _ _ => trivial⟩, mm_NW_warm hn hW hNW⟩⟩
    have kk' : ∀ (r : Option Value) (x' : mm_S) (H1 : Heap) (locs1 : List Loc), Kc r x' → va_P D cl (mm_W tC ad L x') H1 → va_S A H0 H1 locs1 → W p l e R s m args below meth c H1 locs1 cells slots Q (F0 m (pc + 3) ls ((r.map (mm_cv ad)).toList ++ rest.map (mm_cv ad))) := fun r x' H1 locs1 h1 h2 h3 => by
      have h4 := kk r x' H1 locs1 h1 h2 h3
      rwa [mm_ret_st] at h4
    rw [show ((Value.ref k :: as').reverse ++ rest).map (mm_cv ad) = (as'.map (mm_cv ad)).reverse ++ Value.ref (ad k) :: rest.map (mm_cv ad) by simp [mm_cv]]
    have hroom : (List.map (fun v => v.category) (rest.map (mm_cv ad))).sum ≤ 8 := by rw [mm_cats]; exact hcat
    have hln' : (as'.map (mm_cv ad)).length = np := by
      rw [List.length_map]
      simpa using hln
    rcases hlk with hlk | ⟨host, hlk⟩
    · exact mm_call (va_runV (As := as'.map (mm_cv ad)) (n := np) (Ts := TB) (own := own) ⟨hx, hb, hml, hown, hts⟩ (hM D tC ad (.ref k :: as') x H.size Kc hs) ⟨callB_of np hts hG2 rfl hrc hrs (hts _ hini) (hts _ hlk) hd ⟨hfr, hlo⟩, hts _ hinst, hts _ hsel⟩ hpre rfl hln' hsz rfl (lv_room hroom) hdg hcs) hS (mm_sub hD hS hA) kk'
    · exact mm_call (va_runVN (As := as'.map (mm_cv ad)) (n := np) (Ts := TB) (own := own) (host := host) ⟨hx, hb, hml, hown, hts⟩ (hM D tC ad (.ref k :: as') x H.size Kc hs) ⟨va_cnB np hts hG2 rfl hrc hrs (hNW _ hlk) (hts _ hini) hd ⟨hfr, hlo⟩, hts _ hinst, hts _ hsel⟩ hpre rfl hln' hsz rfl (lv_room hroom) hdg hcs) hS (mm_sub hD hS hA) kk'
  next => exact hrcv.elim
theorem mm_sound {G : mm_G} {rt : Option FieldType} {K : mm_K} {cs : List Nat} {CP : Nat → mm_V → List Value → mm_S → Prop} (hx : p.tables.exec = Jvm.exec) (hb : c.code = cc) (hown : s.vm.findClass own = some m.cls) (hts : ∀ w ∈ Ts, w.before args s = true) (hK : va_K D cl (mm_tys tC) s) (hDa : mm_Da A ad L.length) (hu : mm_Lu L)
    (hF : ∀ idx q, G.1 idx = some q → mm_fOk s args cl Ts own idx q) (hI : ∀ idx v, G.2.1 idx = some v → (Cond.constant own idx v).before args s = true) (hJ : ∀ idx v, G.2.2.1 idx = some v → (Cond.constantLong own idx v).before args s = true)
    (hCS : ∀ idx q, G.2.2.2.1 idx = some q → mm_cOk p l e R s m args below meth c cells slots Q cc D cl A H0 tC ad L nL (.invokestatic idx) q.1 (fun _ => True) q.2)
    (hCV : ∀ idx q, G.2.2.2.2.1 idx = some q → mm_cOk p l e R s m args below meth c cells slots Q cc D cl A H0 tC ad L nL (.invokevirtual idx) q.1 (mm_rcv L q.2.1) q.2.2)
    (hRi : ∀ H locs x pc ls v ty, va_P D cl (mm_W tC ad L x) H → va_S A H0 H locs → decode cc pc = .ok (.ireturn, 1) → rt = some ty → narrow ty (.int v) = .int v → K (some (.int v)) x → W p l e R s m args below meth c H locs cells slots Q (F0 m pc ls [.int v]))
    (hRl : ∀ H locs x pc ls v, va_P D cl (mm_W tC ad L x) H → va_S A H0 H locs → decode cc pc = .ok (.lreturn, 1) → rt = some .long → K (some (.long v)) x → W p l e R s m args below meth c H locs cells slots Q (F0 m pc ls [.long v]))
    (hRv : ∀ H locs x pc ls, va_P D cl (mm_W tC ad L x) H → va_S A H0 H locs → decode cc pc = .ok (.return_, 1) → rt = none → K none x → W p l e R s m args below meth c H locs cells slots Q (F0 m pc ls []))
    (hX : ∀ q, G.2.2.2.2.2 = some q → va_X (ad 1000) q.1 q.2 s H0 ∧ ad 1000 < H0.size ∧ ¬ A (ad 1000))
    (hcut : ∀ pc lv st x H locs ls, pc ∈ cs → CP pc lv st x → va_P D cl (mm_W tC ad L x) H → va_S A H0 H locs → lv_has ls nL (lv.map (mm_cq ad)) → W p l e R s m args below meth c H locs cells slots Q (F0 m pc ls (st.map (mm_cv ad)))) :
    ∀ (n pc : Nat) (lv : mm_V) (st : List Value) (x : mm_S) (H : Heap) (locs : List Loc) (ls : Array Slot), mm_vc G L nL rt cc cs CP K n pc lv st x → va_P D cl (mm_W tC ad L x) H → va_S A H0 H locs → lv_has ls nL (lv.map (mm_cq ad)) → W p l e R s m args below meth c H locs cells slots Q (F0 m pc ls (st.map (mm_cv ad))) := by
  intro n
  induction n with
  | zero => intro pc lv st x H locs ls h; exact False.elim h
  | succ n ih =>
    intro pc lv st x H locs ls h hP hS hl
    rw [mm_vc] at h
    split at h
    next q hq =>
      exact mm_step_sound (n := q.2) (i := q.1) hx hb hown hts hK hDa hu hF hI hJ hCS hCV hRi hRl hRv hX (fun pc' lv' st' x' H' locs' ls' hg hP' hS' hl' => by
        split at hg
        next hm => exact hcut _ _ _ _ _ _ _ hm hg hP' hS' hl'
        next => exact ih _ _ _ _ _ _ _ hg hP' hS' hl') hq h hP hS hl
    next => exact False.elim h
end MN
def mm_all (lv : mm_V) : mm_V → Prop
  | [] => True
  | q :: t => lv.lookup q.1 = some q.2 ∧ mm_all lv t
theorem mm_all_mem {lv : mm_V} : ∀ {lv' : mm_V}, mm_all lv lv' → ∀ q ∈ lv', q ∈ lv
  | [], _, q, hq => by cases hq
  | a :: t, h, q, hq => by
    rcases List.mem_cons.mp hq with rfl | hq
    · exact mm_lookup h.1
    · exact mm_all_mem h.2 q hq
theorem mm_all_has {ls : Array Slot} {nL : Nat} {ad : Nat → Nat} {lv lv' : mm_V} (h : mm_all lv lv') (hl : lv_has ls nL (lv.map (mm_cq ad))) : lv_has ls nL (lv'.map (mm_cq ad)) := by
  refine ⟨hl.1, hl.2.1, fun q hq => ?_⟩
  obtain ⟨a, ha, rfl⟩ := List.mem_map.mp hq
  exact hl.2.2 _ (List.mem_map_of_mem (mm_all_mem h a ha))
section MT
variable {p : Program} {l : Launch} {e : Env} {R : Room} {s : State} {m : MethodId} {args : Array Value} {below : List Frame} {meth : Method} {c : Code} {cells slots : Nat} {Q : State → Prop} {cc : ByteArray} {D : va_G} {cl : List vw_C} {A : Nat → Prop} {H0 : Heap} {tC : Nat → ClassId} {ad : Nat → Nat} {L : mm_L} {nL : Nat} {Ts : List Cond} {own : String}
/-- from a place on to the end, loops by cut places with a measure that falls -/
theorem mm_tail {G : mm_G} {rt : Option FieldType} {K : mm_K} {cs : List Nat} (hx : p.tables.exec = Jvm.exec) (hb : c.code = cc) (hown : s.vm.findClass own = some m.cls) (hts : ∀ w ∈ Ts, w.before args s = true) (hK : va_K D cl (mm_tys tC) s) (hDa : mm_Da A ad L.length) (hu : mm_Lu L)
    (hF : ∀ idx q, G.1 idx = some q → mm_fOk s args cl Ts own idx q) (hI : ∀ idx v, G.2.1 idx = some v → (Cond.constant own idx v).before args s = true) (hJ : ∀ idx v, G.2.2.1 idx = some v → (Cond.constantLong own idx v).before args s = true)
    (hCS : ∀ idx q, G.2.2.2.1 idx = some q → mm_cOk p l e R s m args below meth c cells slots Q cc D cl A H0 tC ad L nL (.invokestatic idx) q.1 (fun _ => True) q.2)
    (hCV : ∀ idx q, G.2.2.2.2.1 idx = some q → mm_cOk p l e R s m args below meth c cells slots Q cc D cl A H0 tC ad L nL (.invokevirtual idx) q.1 (mm_rcv L q.2.1) q.2.2)
    (hRi : ∀ H locs x pc ls v ty, va_P D cl (mm_W tC ad L x) H → va_S A H0 H locs → decode cc pc = .ok (.ireturn, 1) → rt = some ty → narrow ty (.int v) = .int v → K (some (.int v)) x → W p l e R s m args below meth c H locs cells slots Q (F0 m pc ls [.int v]))
    (hRl : ∀ H locs x pc ls v, va_P D cl (mm_W tC ad L x) H → va_S A H0 H locs → decode cc pc = .ok (.lreturn, 1) → rt = some .long → K (some (.long v)) x → W p l e R s m args below meth c H locs cells slots Q (F0 m pc ls [.long v]))
    (hRv : ∀ H locs x pc ls, va_P D cl (mm_W tC ad L x) H → va_S A H0 H locs → decode cc pc = .ok (.return_, 1) → rt = none → K none x → W p l e R s m args below meth c H locs cells slots Q (F0 m pc ls []))
    (hX : ∀ q, G.2.2.2.2.2 = some q → va_X (ad 1000) q.1 q.2 s H0 ∧ ad 1000 < H0.size ∧ ¬ A (ad 1000))
    (Inv : Nat → Nat → mm_V → mm_S → Prop)
    (h1 : ∀ k pc lv x', pc ∈ cs → Inv k pc lv x' → ∃ n, mm_vc G L nL rt cc cs (fun pc lv st x'' => st = [] ∧ ∃ k' lv', k' < k ∧ mm_all lv lv' ∧ Inv k' pc lv' x'') K n pc lv [] x')
    {pc0 : Nat} {lv0 : mm_V} {st0 : List Value} {x0 : mm_S} {H : Heap} {locs : List Loc} {ls : Array Slot}
    (h0 : ∃ n, mm_vc G L nL rt cc cs (fun pc lv st x'' => st = [] ∧ ∃ k lv', mm_all lv lv' ∧ Inv k pc lv' x'') K n pc0 lv0 st0 x0) (hP : va_P D cl (mm_W tC ad L x0) H) (hS : va_S A H0 H locs) (hl : lv_has ls nL (lv0.map (mm_cq ad))) : W p l e R s m args below meth c H locs cells slots Q (F0 m pc0 ls (st0.map (mm_cv ad))) := by
  have hloop : ∀ (k pc : Nat) (lv : mm_V) (x' : mm_S) (H : Heap) (locs : List Loc) (ls : Array Slot), pc ∈ cs → Inv k pc lv x' → va_P D cl (mm_W tC ad L x') H → va_S A H0 H locs → lv_has ls nL (lv.map (mm_cq ad)) → W p l e R s m args below meth c H locs cells slots Q (F0 m pc ls []) := by
    intro k
    induction k using Nat.strongRecOn with
    | ind k ih =>
      intro pc lv x' H locs ls hpc hinv hP' hS' hl'
      obtain ⟨n, hvc⟩ := h1 k pc lv x' hpc hinv
      exact mm_sound hx hb hown hts hK hDa hu hF hI hJ hCS hCV hRi hRl hRv hX (fun pc' lv' st' x'' H' locs' ls' hm hg hP2 hS2 hl2 => by
        obtain ⟨rfl, k', lv2, hk', hal, hi⟩ := hg
        exact ih k' hk' pc' lv2 x'' H' locs' ls' hm hi hP2 hS2 (mm_all_has hal hl2)) n pc lv [] x' H locs ls hvc hP' hS' hl'
  obtain ⟨n, hvc⟩ := h0
  exact mm_sound hx hb hown hts hK hDa hu hF hI hJ hCS hCV hRi hRl hRv hX (fun pc' lv' st' x'' H' locs' ls' hm hg hP2 hS2 hl2 => by
    obtain ⟨rfl, k, lv2, hal, hi⟩ := hg
    exact hloop k pc' lv2 x'' H' locs' ls' hm hi hP2 hS2 (mm_all_has hal hl2)) n pc0 lv0 st0 x0 H locs ls hvc hP hS hl
end MT
theorem mm_args (ad : Nat → Nat) : ∀ (as : List Value) (i : Nat), lv_args i (as.map (mm_cv ad)) = (lv_args i as).map (mm_cq ad)
  | [], _ => rfl
  | v :: as, i => by
    show (i, mm_cv ad v) :: lv_args (if (mm_cv ad v).category = 2 then i + 2 else i + 1) (as.map (mm_cv ad)) = (i, mm_cv ad v) :: (lv_args (if v.category = 2 then i + 2 else i + 1) as).map (mm_cq ad)
    rw [mm_cat, mm_args ad as]
theorem mm_sl (ad : Nat → Nat) (as : List Value) : (lg_sl (as.map (mm_cv ad))).length = (lg_sl as).length := by
  induction as with
  | nil => rfl
  | cons v as ih =>
    simp only [lg_sl, List.map_cons, List.flatMap_cons, List.length_append, mm_cat] at ih ⊢
    rw [ih]
    congr 1
    split <;> rfl
/-- as the kit's Met.ofW, for a method that no row of the natives runs -/
theorem mm_ofW {l : Launch} {y : MethodName} {ws ws' : List Cond} {rm : Room} {Pc : Array Value → State → Prop} {Qc : Array Value → State → Outcome → State → Prop} {mc ms : Nat} {free : Addr → Prop} {cc : ByteArray} {maxL : Nat} {ret : Option FieldType} (hy : plainFor y = true) (hw : ws = Cond.code y cc maxL ret :: ws')
    (body : ∀ p e s m args below meth c s₁, BodyLoose p l y (headSpec ws rm) cc maxL ret e s m args below meth c s₁ → c.maxLocals = maxL → Pc args s → W p l e (headSpec ws rm).room s m args below meth c s.heap [] 0 0 (MQ below Qc args s mc ms free) (entryFrame m args maxL)) : Met l y ws rm Pc Qc mc ms free := by
  refine MetFree.of_bodySF (code := cc) (maxLocals := maxL) (ret := ret) hy ?_ ?_
  · intro args s m h hn
    obtain ⟨meth, c, h1, h2, h3, h4, h5, h6, -, -⟩ := Cond.code_spec hn (atoms_spec (ws := ws) h _ (by rw [hw]; exact List.mem_cons_self))
    exact ⟨meth, c, h1, h2, h3, h4, h5, h6⟩
  · intro p e s m args below meth c s₁ B hml hP _
    obtain ⟨t, a1, o, b1, b2, b3⟩ := body p e s m args below meth c s₁ B hml hP s₁ (by rw [B.state]; rfl) (Stand.of_body B)
    exact ⟨t, o, a1, b1, b2, b3.1, b3.2⟩
/-- a contract out of its condition -/
theorem mm_con {l : Launch} {nws TB : List Cond} {cl : List vw_C} {L : mm_L} {y : MethodName} {bytes : ByteArray} {maxL : Nat} {ret : Option FieldType} {rm : Room} {S : mm_P} (G : mm_G) (cs : List Nat) (Inv : mm_K → List Value → mm_S → Nat → Nat → mm_V → mm_S → Prop)
    (hy : plainFor y = true) (hG : GoodIn TB TB) (hu : mm_Lu L) (hn : ∀ w ∈ nws, mm_isN w = true) (hlen : ∀ as x K, S as x K → (lg_sl as).length ≤ maxL)
    (hsc : G.2.2.2.2.2 = none) (hF : ∀ idx q, G.1 idx = some q → mm_fSt cl TB nws y.cls idx q) (hI : ∀ idx v, G.2.1 idx = some v → Cond.constant y.cls idx v ∈ TB) (hJ : ∀ idx v, G.2.2.1 idx = some v → Cond.constantLong y.cls idx v ∈ TB)
    (hCS : ∀ idx q, G.2.2.2.1 idx = some q → mm_Cst l nws cl TB L y.cls rm.frames rm.locals idx q) (hCV : ∀ idx q, G.2.2.2.2.1 idx = some q → mm_Cvt l nws cl TB L y.cls rm.frames rm.locals idx q)
    (h0 : ∀ as x K, S as x K → ∃ n, mm_vc G L maxL ret bytes cs (fun pc lv st x' => st = [] ∧ ∃ k lv', mm_all lv lv' ∧ Inv K as x k pc lv' x') K n 0 (lv_args 0 as) [] x)
    (h1 : ∀ as x K, S as x K → ∀ k pc lv x', pc ∈ cs → Inv K as x k pc lv x' → ∃ n, mm_vc G L maxL ret bytes cs (fun pc lv st x'' => st = [] ∧ ∃ k' lv', k' < k ∧ mm_all lv lv' ∧ Inv K as x k' pc lv' x'') K n pc lv [] x') : mm_Con l nws cl TB L y bytes maxL ret rm S := by
  intro D tC ad as x sz K hs
  refine mm_ofW (cc := bytes) (maxL := maxL) (ret := ret) hy rfl ?_
  intro p e s m args below meth c s₁ B hml hv
  obtain ⟨rfl, hsz, hP, hK, hD0, hDa0, hNW⟩ := hv
  have hx := B.exec
  have hb := B.bytes
  have hr := B.returns
  have hts0 := atoms_spec (ws := Cond.code y bytes maxL ret :: TB) B.pre
  have hts : ∀ w ∈ TB, w.before (as.map (mm_cv ad)).toArray s = true := fun w hw => hts0 w (List.mem_cons_of_mem _ hw)
  have hown : s.vm.findClass y.cls = some m.cls := findClass_of_methodNamed B.named
  have hlocks := B.notSynchronized
  subst hsz
  have hDa : mm_Da (va_A (mm_W tC ad L x) s.heap.size) ad L.length := ⟨hDa0.1, fun k hk => by
    have hg := mm_W_get tC ad L x k
    rw [List.getElem?_eq_getElem hk] at hg
    exact Or.inl ⟨k, _, hg⟩⟩
  generalize hAe : va_A (mm_W tC ad L x) s.heap.size = A at hDa ⊢
  have hA : ∀ q : Nat, s.heap.size ≤ q → A q := fun q h => by rw [← hAe]; exact Or.inr h
  have hS : va_S A s.heap s.heap [] := va_S.rf
  have hl := lv_entry (as.map (mm_cv ad)) (n := maxL) (by rw [mm_sl]; exact hlen as x K hs)
  rw [lg_entry_eq]
  generalize (lg_sl (as.map (mm_cv ad)) ++ List.replicate (maxL - (lg_sl (as.map (mm_cv ad))).length) Slot.unset).toArray = ls at hl ⊢
  rw [mm_args] at hl
  have hF' : ∀ idx q, G.1 idx = some q → mm_fOk s (as.map (mm_cv ad)).toArray cl TB y.cls idx q := by
    intro idx q hq
    obtain ⟨C, T, N, ty0, a1, a2, a3, a4, a5, a6, a7⟩ := hF idx q hq
    refine ⟨C, T, N, ty0, a1, a2, a3, a4, a5, ?_, a7⟩
    rcases a6 with a6 | ⟨host, a6⟩
    · exact Or.inl (hts _ a6)
    · exact Or.inr ⟨host, va_Nw.use rfl (hNW _ a6)⟩
  have hcs : (0 : Nat) ≤ rm.cells ∧ (0 : Nat) ≤ rm.slots := ⟨Nat.zero_le _, Nat.zero_le _⟩
  have hCS' : ∀ idx q, G.2.2.2.1 idx = some q → mm_cOk p l e rm s m (as.map (mm_cv ad)).toArray below meth c 0 0 (MQ below (mm_Q D cl tC ad L x s.heap.size K) (as.map (mm_cv ad)).toArray s 0 0 A) bytes D cl A s.heap tC ad L maxL (.invokestatic idx) q.1 (fun _ => True) q.2 := by
    intro idx q hq
    obtain ⟨y', bytes', maxL', ret', rm', a1, a2, a3⟩ := hCS idx q hq
    exact mm_cS hx hb hml hown hts hG a1 a2 a3 hK hDa hA hn hNW hcs
  have hCV' : ∀ idx q, G.2.2.2.2.1 idx = some q → mm_cOk p l e rm s m (as.map (mm_cv ad)).toArray below meth c 0 0 (MQ below (mm_Q D cl tC ad L x s.heap.size K) (as.map (mm_cv ad)).toArray s 0 0 A) bytes D cl A s.heap tC ad L maxL (.invokevirtual idx) q.1 (mm_rcv L q.2.1) q.2.2 := by
    intro idx q hq
    obtain ⟨y', bytes', maxL', ret', rm', np, T, N, a1, a2, a3, a4, a5, a6⟩ := hCV idx q hq
    rw [a2]
    exact mm_cV hx hb hml hown hts hG a1 a3 a4 a5 a6 hK hDa hA hn hNW hcs
  have hq : ∀ (v : Option Value) (x' : mm_S) (H : Heap) (locs : List Loc), va_P D cl (mm_W tC ad L x') H → va_S A s.heap H locs → K v x' → ∀ t : State, t.heap = H → mm_Q D cl tC ad L x s.heap.size K (as.map (mm_cv ad)).toArray s (.returned (v.map (mm_cv ad))) t := by
    intro v x' H locs hP' hS' hk t ht
    refine ⟨⟨v, x', rfl, hk, by rw [ht]; exact hP'⟩, ?_⟩
    rw [hAe]
    exact hS'.F ht
  have hRi : ∀ H locs x' pc ls v ty, va_P D cl (mm_W tC ad L x') H → va_S A s.heap H locs → decode bytes pc = .ok (.ireturn, 1) → ret = some ty → narrow ty (.int v) = .int v → K (some (.int v)) x' → W p l e rm s m (as.map (mm_cv ad)).toArray below meth c H locs 0 0 (MQ below (mm_Q D cl tC ad L x s.heap.size K) (as.map (mm_cv ad)).toArray s 0 0 A) (F0 m pc ls [.int v]) := by
    intro H locs x' pc ls v ty hP' hS' hd hty hnr hk
    exact W.zret hx hb (hr.trans hty) hnr (fun t ht _ => hq (some (.int v)) x' H locs hP' hS' hk t ht) hS'.2.2 hd
  have hRl : ∀ H locs x' pc ls v, va_P D cl (mm_W tC ad L x') H → va_S A s.heap H locs → decode bytes pc = .ok (.lreturn, 1) → ret = some .long → K (some (.long v)) x' → W p l e rm s m (as.map (mm_cv ad)).toArray below meth c H locs 0 0 (MQ below (mm_Q D cl tC ad L x s.heap.size K) (as.map (mm_cv ad)).toArray s 0 0 A) (F0 m pc ls [.long v]) := by
    intro H locs x' pc ls v hP' hS' hd hty hk
    exact W.lret hx hb (hr.trans hty) (fun t ht _ => hq (some (.long v)) x' H locs hP' hS' hk t ht) hS'.2.2 hd
  have hRv : ∀ H locs x' pc ls, va_P D cl (mm_W tC ad L x') H → va_S A s.heap H locs → decode bytes pc = .ok (.return_, 1) → ret = none → K none x' → W p l e rm s m (as.map (mm_cv ad)).toArray below meth c H locs 0 0 (MQ below (mm_Q D cl tC ad L x s.heap.size K) (as.map (mm_cv ad)).toArray s 0 0 A) (F0 m pc ls []) := by
    intro H locs x' pc ls hP' hS' hd hty hk
    exact W.vret hx hb (hr.trans hty) (fun t ht _ => hq none x' H locs hP' hS' hk t ht) hS'.2.2 hd
  have hX : ∀ q, G.2.2.2.2.2 = some q → va_X (ad 1000) q.1 q.2 s s.heap ∧ ad 1000 < s.heap.size ∧ ¬ A (ad 1000) := fun q hq => by rw [hsc] at hq; cases hq
  exact mm_tail hx hb hown hts hK hDa hu hF' (fun idx v hv => hts _ (hI idx v hv)) (fun idx v hv => hts _ (hJ idx v hv)) hCS' hCV' hRi hRl hRv hX (Inv K as x) (h1 as x K hs) (h0 as x K hs) hP hS hl
