/-! Rows of the constructors: an array made of a class that is known, an object's end by the machine of registers. -/
section MC
variable {p : Program} {l : Launch} {e : Env} {R : Room} {s : State} {m : MethodId} {args : Array Value} {below : List Frame} {meth : Method} {c : Code} {H : Heap} {locs : List Loc} {cells slots : Nat} {Q : State → Prop}
variable {cc : ByteArray} {pc : Nat} {ls : Array Slot} {rest : List Value} {D : va_G} {cl : List vw_C} {A : Nat → Prop} {tys : List (ClassId × FieldType)} {ws : va_W} {H0 : Heap}
theorem va_newT (hexec : p.tables.exec = Jvm.exec) (hb : c.code = cc) {atype : ArrayType} (harr : (Cond.arrayClass (newarray.typeOf atype)).before args s = true) {ty : FieldType} (hty : newarray.typeOf atype = ty) (hno : ∀ C, ty ≠ .object C) (hK : va_K D cl tys s) {t0 : Nat} {cT : ClassId} (ht : tys[t0]? = some (cT, ty)) (hP : va_P D cl ws H) (hD : va_D A ws) (hS : va_S A H0 H locs) (hA : ∀ q, H0.size ≤ q → A q)
    {n : Int32} {N' : Nat} {a0 : vp_A} (ha : ∀ cA : ClassId, vp_cell cA a0 = arrV cA N' (fun _ => defaultValue ty)) (hn : ¬ n < 0) (hN : n.toNatClampNeg = N') (hbytes : N' * componentBytes ty ≤ 536870912) (hcells : cells + 1 ≤ R.cells) (hslots : slots + N' ≤ R.slots) (hdg : decode cc pc = .ok (.newarray atype, 2))
    (kk : ∀ (q : Nat) (H1 : Heap), va_P D cl (ws ++ [(q, .inl (cT, a0))]) H1 → va_D A (ws ++ [(q, .inl (cT, a0))]) → va_S A H0 H1 locs →
      W p l e R s m args below meth c H1 locs (cells + 1) (slots + N') Q (F0 m (pc + 2) ls (.ref q :: rest))) : W p l e R s m args below meth c H locs cells slots Q (F0 m pc ls (.int n :: rest)) := by
  refine va_newa hexec hb harr hty hK hP hD hS hA ha hn hN hbytes hcells hslots hdg (fun q cA H1 hK' hP' hD' hS' => ?_)
  have h1 := (hK.2 t0 _ ht).2
  have h2 := (hK'.2 tys.length (cA, ty) (by simp)).2
  have h3 : cA = cT := by
    cases ty with
    | object C => exact absurd rfl (hno C)
    | _ => exact Option.some.inj (h2.symm.trans h1)
  subst h3
  exact kk q H1 hP' hD' hS'
end MC
/-- from a place of a constructor to its end, by the machine of registers -/
theorem mm_end {p : Program} {l : Launch} {e : Env} {R : Room} {s : State} {m : MethodId} {args : Array Value} {below : List Frame} {meth : Method} {c : Code} {cells slots : Nat} {cc : ByteArray} {D : va_G} {A : Nat → Prop} {tC : Nat → ClassId} {ad : Nat → Nat} {L : mm_L} {nL : Nat} {own : String} {Qc : Array Value → State → Outcome → State → Prop}
    (G : mm_G) (K : mm_K) (cs : List Nat) (Inv : Nat → Nat → mm_V → mm_S → Prop) (hx : p.tables.exec = Jvm.exec) (hb : c.code = cc) (hml : c.maxLocals = nL) (hr : meth.sig.returnType = none) (hlocks : meth.locks = false) (hown : s.vm.findClass own = some m.cls) (hts : ∀ w ∈ TB, w.before args s = true) (hK : va_K D CL (mm_tys tC) s) (hDa : mm_Da A ad L.length) (hu : mm_Lu L) (hA : ∀ q, s.heap.size ≤ q → A q) (hNW : mm_NW NW s) (hcs : cells ≤ R.cells ∧ slots ≤ R.slots)
    (hsc : G.2.2.2.2.2 = none) (hF : ∀ idx q, G.1 idx = some q → mm_fSt CL TB NW own idx q) (hI : ∀ idx v, G.2.1 idx = some v → Cond.constant own idx v ∈ TB) (hJ : ∀ idx v, G.2.2.1 idx = some v → Cond.constantLong own idx v ∈ TB)
    (hCS : ∀ idx q, G.2.2.2.1 idx = some q → mm_Cst l NW CL TB L own R.frames R.locals idx q) (hCV : ∀ idx q, G.2.2.2.2.1 idx = some q → mm_Cvt l NW CL TB L own R.frames R.locals idx q)
    (hq : ∀ (x' : mm_S) (H : Heap) (locs : List Loc) (t : State), va_P D CL (mm_W tC ad L x') H → va_S A s.heap H locs → K none x' → t.heap = H → Qc args s (.returned none) t)
    (h1 : ∀ k pc lv x', pc ∈ cs → Inv k pc lv x' → ∃ n, mm_vc G L nL none cc cs (fun pc lv st x'' => st = [] ∧ ∃ k' lv', k' < k ∧ mm_all lv lv' ∧ Inv k' pc lv' x'') K n pc lv [] x')
    {pc0 : Nat} {lv0 : mm_V} {st0 : List Value} {x0 : mm_S} {H : Heap} {locs : List Loc} {ls : Array Slot}
    (h0 : ∃ n, mm_vc G L nL none cc cs (fun pc lv st x'' => st = [] ∧ ∃ k lv', mm_all lv lv' ∧ Inv k pc lv' x'') K n pc0 lv0 st0 x0) (hP : va_P D CL (mm_W tC ad L x0) H) (hS : va_S A s.heap H locs) (hl : lv_has ls nL (lv0.map (mm_cq ad))) : W p l e R s m args below meth c H locs cells slots (MQ below Qc args s cells slots A) (F0 m pc0 ls (st0.map (mm_cv ad))) := by
  have hF' : ∀ idx q, G.1 idx = some q → mm_fOk s args CL TB own idx q := by
    intro idx q hq
    obtain ⟨C, T, N, ty0, a1, a2, a3, a4, a5, a6, a7⟩ := hF idx q hq
    refine ⟨C, T, N, ty0, a1, a2, a3, a4, a5, ?_, a7⟩
    rcases a6 with a6 | ⟨host, a6⟩
    · exact Or.inl (hts _ a6)
    · exact Or.inr ⟨host, va_Nw.use rfl (hNW _ a6)⟩
  have hCS' : ∀ idx q, G.2.2.2.1 idx = some q → mm_cOk p l e R s m args below meth c cells slots (MQ below Qc args s cells slots A) cc D CL A s.heap tC ad L nL (.invokestatic idx) q.1 (fun _ => True) q.2 := by
    intro idx q hq
    obtain ⟨y', bytes', maxL', ret', rm', a1, a2, a3⟩ := hCS idx q hq
    exact mm_cS hx hb hml hown hts tb_good a1 a2 a3 hK hDa hA nw_nest hNW hcs
  have hCV' : ∀ idx q, G.2.2.2.2.1 idx = some q → mm_cOk p l e R s m args below meth c cells slots (MQ below Qc args s cells slots A) cc D CL A s.heap tC ad L nL (.invokevirtual idx) q.1 (mm_rcv L q.2.1) q.2.2 := by
    intro idx q hq
    obtain ⟨y', bytes', maxL', ret', rm', np, T, N, a1, a2, a3, a4, a5, a6⟩ := hCV idx q hq
    rw [a2]
    exact mm_cV hx hb hml hown hts tb_good a1 a3 a4 a5 a6 hK hDa hA nw_nest hNW hcs
  exact mm_tail hx hb hown hts hK hDa hu hF' (fun idx v hv => hts _ (hI idx v hv)) (fun idx v hv => hts _ (hJ idx v hv)) hCS' hCV'
    (fun H locs x' pc ls v ty _ _ _ hty => by cases hty) (fun H locs x' pc ls v _ _ _ hty => by cases hty)
    (fun H locs x' pc ls hP' hS' hd _ hk => W.vret hx hb hr (fun t ht _ => hq x' H locs t hP' hS' hk ht) hS'.2.2 hd)
    (fun q hq => by rw [hsc] at hq; cases hq) Inv h1 h0 hP hS hl
theorem mm_two {h0 q : Nat} (h : h0 ≠ q) {A : Nat → Prop} (a0 : A h0) (a1 : A q) : mm_Da A (fun k => if k = 0 then h0 else q) 2 := by
  refine ⟨fun i j hi hj he => ?_, fun k hk => ?_⟩
  · dsimp only at he
    split at he <;> split at he
    · omega
    · exact absurd he h
    · exact absurd he.symm h
    · omega
  · dsimp only
    split
    · exact a0
    · exact a1
