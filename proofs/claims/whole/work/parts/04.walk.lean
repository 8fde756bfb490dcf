/-! Rows that walk the condition mm_vc, an instruction a row: v_x at an instruction, a_go and a_cut at the next place. -/
def mm_at (G : mm_G) (L : mm_L) (nL : Nat) (rt : Option FieldType) (cc : ByteArray) (cs : List Nat) (CP : Nat → mm_V → List Value → mm_S → Prop) (K : mm_K) (f pc : Nat) (lv : mm_V) (st : List Value) (x : mm_S) : Prop := if pc ∈ cs then CP pc lv st x else mm_vc G L nL rt cc cs CP K f pc lv st x
def mm_split : Nat → List Value → List Value → Option (List Value × List Value)
  | 0, st, acc => some (acc, st)
  | n + 1, v :: st, acc => mm_split n st (v :: acc)
  | _ + 1, [], _ => none
theorem mm_split_e : ∀ (n : Nat) (st acc as r : List Value), mm_split n st acc = some (as, r) → acc.reverse ++ st = as.reverse ++ r
  | 0, st, acc, as, r, h => by
    cases h
    rfl
  | n + 1, v :: st, acc, as, r, h => by
    have e := mm_split_e n st (v :: acc) as r h
    rw [← e]
    simp
  | _ + 1, [], _, _, _, h => by cases h
theorem mm_spl (n : Nat) {st as r : List Value} (h : mm_split n st [] = some (as, r)) : st = as.reverse ++ r := mm_split_e n st [] as r h
/-- a contract by a function: the answer and the registers behind it; none: it isn't called so -/
def mm_F (f : List Value → mm_S → Option (Option Value × mm_S)) : mm_P := fun as x K => ∃ q, f as x = some q ∧ K q.1 q.2
theorem mm_F_i {f : List Value → mm_S → Option (Option Value × mm_S)} {as : List Value} {x : mm_S} {K : mm_K} {r : Option Value} {x' : mm_S} (h : f as x = some (r, x')) (hk : K r x') : mm_F f as x K := ⟨(r, x'), h, hk⟩
section V4
variable {G : mm_G} {L : mm_L} {nL : Nat} {rt : Option FieldType} {cc : ByteArray} {cs : List Nat} {CP : Nat → mm_V → List Value → mm_S → Prop} {K : mm_K} {f pc : Nat} {lv : mm_V} {st : List Value} {x : mm_S}
theorem a_go (hc : pc ∉ cs) (h : mm_vc G L nL rt cc cs CP K f pc lv st x) : mm_at G L nL rt cc cs CP K f pc lv st x := by
  unfold mm_at
  rw [if_neg hc]
  exact h
theorem a_cut (hc : pc ∈ cs) (h : CP pc lv st x) : mm_at G L nL rt cc cs CP K f pc lv st x := by
  unfold mm_at
  rw [if_pos hc]
  exact h
theorem v_step {i : ClassFile.Instr} {n : Nat} (hd : decode cc pc = .ok (i, n)) (h : mm_step G L nL rt K (mm_at G L nL rt cc cs CP K f) pc i n lv st x) : mm_vc G L nL rt cc cs CP K (f + 1) pc lv st x := by
  rw [mm_vc, hd]
  exact h
theorem v_iconst {v : Int} {w : Int32} (hd : decode cc pc = .ok (.iconst v, 1)) (hw : Int32.ofInt v = w) (h : mm_at G L nL rt cc cs CP K f (pc + 1) lv (.int w :: st) x) : mm_vc G L nL rt cc cs CP K (f + 1) pc lv st x := v_step hd ⟨rfl, by rw [hw]; exact h⟩
theorem v_bipush {v : Int} {w : Int32} (hd : decode cc pc = .ok (.bipush v, 2)) (hw : (Int8.ofInt v).toInt32 = w) (h : mm_at G L nL rt cc cs CP K f (pc + 2) lv (.int w :: st) x) : mm_vc G L nL rt cc cs CP K (f + 1) pc lv st x := v_step hd ⟨rfl, by rw [hw]; exact h⟩
theorem v_sipush {v : Int} {w : Int32} (hd : decode cc pc = .ok (.sipush v, 3)) (hw : (Int16.ofInt v).toInt32 = w) (h : mm_at G L nL rt cc cs CP K f (pc + 3) lv (.int w :: st) x) : mm_vc G L nL rt cc cs CP K (f + 1) pc lv st x := v_step hd ⟨rfl, by rw [hw]; exact h⟩
theorem v_lconst {v : Fin 2} {w : Int64} (hd : decode cc pc = .ok (.lconst v, 1)) (hw : Int64.ofNat (v : Nat) = w) (h : mm_at G L nL rt cc cs CP K f (pc + 1) lv (.long w :: st) x) : mm_vc G L nL rt cc cs CP K (f + 1) pc lv st x := v_step hd ⟨rfl, by rw [hw]; exact h⟩
theorem mm_o_i {α : Type} {o : Option α} {k : α → Prop} {v : α} (ho : o = some v) (h : k v) : mm_o o k := by
  subst ho
  exact h
theorem v_ldc {k : Nat} {v : Int32} (hd : decode cc pc = .ok (.ldc k, 2)) (hv : G.2.1 k = some v) (h : mm_at G L nL rt cc cs CP K f (pc + 2) lv (.int v :: st) x) : mm_vc G L nL rt cc cs CP K (f + 1) pc lv st x := v_step hd ⟨rfl, mm_o_i hv h⟩
theorem v_ldc2 {k : Nat} {v : Int64} (hd : decode cc pc = .ok (.ldc2_w k, 3)) (hv : G.2.2.1 k = some v) (h : mm_at G L nL rt cc cs CP K f (pc + 3) lv (.long v :: st) x) : mm_vc G L nL rt cc cs CP K (f + 1) pc lv st x := v_step hd ⟨rfl, mm_o_i hv h⟩
theorem mm_ldi_i {i : Nat} {v : Int32} {k : Int32 → Prop} (hv : lv.lookup i = some (.int v)) (h : k v) : mm_ldi lv i k := by
  unfold mm_ldi
  rw [hv]
  exact h
theorem v_iload_n {k : Fin 4} {v : Int32} (hd : decode cc pc = .ok (.iload_n k, 1)) (hv : lv.lookup (k : Nat) = some (.int v)) (h : mm_at G L nL rt cc cs CP K f (pc + 1) lv (.int v :: st) x) : mm_vc G L nL rt cc cs CP K (f + 1) pc lv st x := v_step hd ⟨rfl, mm_ldi_i hv h⟩
theorem v_iload {k : Nat} {v : Int32} (hd : decode cc pc = .ok (.iload k, 2)) (hv : lv.lookup k = some (.int v)) (h : mm_at G L nL rt cc cs CP K f (pc + 2) lv (.int v :: st) x) : mm_vc G L nL rt cc cs CP K (f + 1) pc lv st x := v_step hd ⟨rfl, mm_ldi_i hv h⟩
theorem mm_ldl_i {i : Nat} {v : Int64} {k : Int64 → Prop} (hv : lv.lookup i = some (.long v)) (h : k v) : mm_ldl lv i k := by
  unfold mm_ldl
  rw [hv]
  exact h
theorem v_lload_n {k : Fin 4} {v : Int64} (hd : decode cc pc = .ok (.lload_n k, 1)) (hv : lv.lookup (k : Nat) = some (.long v)) (h : mm_at G L nL rt cc cs CP K f (pc + 1) lv (.long v :: st) x) : mm_vc G L nL rt cc cs CP K (f + 1) pc lv st x := v_step hd ⟨rfl, mm_ldl_i hv h⟩
theorem v_lload {k : Nat} {v : Int64} (hd : decode cc pc = .ok (.lload k, 2)) (hv : lv.lookup k = some (.long v)) (h : mm_at G L nL rt cc cs CP K f (pc + 2) lv (.long v :: st) x) : mm_vc G L nL rt cc cs CP K (f + 1) pc lv st x := v_step hd ⟨rfl, mm_ldl_i hv h⟩
theorem mm_lda_i {i : Nat} {v : Nat} {k : Nat → Prop} (hv : lv.lookup i = some (.ref v)) (h : k v) : mm_lda lv i k := by
  unfold mm_lda
  rw [hv]
  exact h
theorem v_aload_n {k : Fin 4} {v : Nat} (hd : decode cc pc = .ok (.aload_n k, 1)) (hv : lv.lookup (k : Nat) = some (.ref v)) (h : mm_at G L nL rt cc cs CP K f (pc + 1) lv (.ref v :: st) x) : mm_vc G L nL rt cc cs CP K (f + 1) pc lv st x := v_step hd ⟨rfl, mm_lda_i hv h⟩
theorem v_aload {k : Nat} {v : Nat} (hd : decode cc pc = .ok (.aload k, 2)) (hv : lv.lookup k = some (.ref v)) (h : mm_at G L nL rt cc cs CP K f (pc + 2) lv (.ref v :: st) x) : mm_vc G L nL rt cc cs CP K (f + 1) pc lv st x := v_step hd ⟨rfl, mm_lda_i hv h⟩
theorem v_istore_n {k : Fin 4} {v : Int32} (hd : decode cc pc = .ok (.istore_n k, 1)) (hn : (k : Nat) < nL) (h : mm_at G L nL rt cc cs CP K f (pc + 1) (mm_st1 lv (k : Nat) (.int v)) st x) : mm_vc G L nL rt cc cs CP K (f + 1) pc lv (.int v :: st) x := v_step hd ⟨rfl, hn, h⟩
theorem v_istore {k : Nat} {v : Int32} (hd : decode cc pc = .ok (.istore k, 2)) (hn : (k : Nat) < nL) (h : mm_at G L nL rt cc cs CP K f (pc + 2) (mm_st1 lv k (.int v)) st x) : mm_vc G L nL rt cc cs CP K (f + 1) pc lv (.int v :: st) x := v_step hd ⟨rfl, hn, h⟩
theorem v_lstore_n {k : Fin 4} {v : Int64} (hd : decode cc pc = .ok (.lstore_n k, 1)) (hn : (k : Nat) + 1 < nL) (h : mm_at G L nL rt cc cs CP K f (pc + 1) (mm_st2 lv (k : Nat) (.long v)) st x) : mm_vc G L nL rt cc cs CP K (f + 1) pc lv (.long v :: st) x := v_step hd ⟨rfl, hn, h⟩
theorem v_lstore {k : Nat} {v : Int64} (hd : decode cc pc = .ok (.lstore k, 2)) (hn : (k : Nat) + 1 < nL) (h : mm_at G L nL rt cc cs CP K f (pc + 2) (mm_st2 lv k (.long v)) st x) : mm_vc G L nL rt cc cs CP K (f + 1) pc lv (.long v :: st) x := v_step hd ⟨rfl, hn, h⟩
theorem v_astore_n {k : Fin 4} {v : Nat} (hd : decode cc pc = .ok (.astore_n k, 1)) (hn : (k : Nat) < nL) (h : mm_at G L nL rt cc cs CP K f (pc + 1) (mm_st1 lv (k : Nat) (.ref v)) st x) : mm_vc G L nL rt cc cs CP K (f + 1) pc lv (.ref v :: st) x := v_step hd ⟨rfl, hn, h⟩
theorem v_astore {k : Nat} {v : Nat} (hd : decode cc pc = .ok (.astore k, 2)) (hn : (k : Nat) < nL) (h : mm_at G L nL rt cc cs CP K f (pc + 2) (mm_st1 lv k (.ref v)) st x) : mm_vc G L nL rt cc cs CP K (f + 1) pc lv (.ref v :: st) x := v_step hd ⟨rfl, hn, h⟩
theorem v_iinc {k : Nat} {v : Int} {u w : Int32} (hd : decode cc pc = .ok (.iinc k v, 3)) (hn : k < nL) (hu : lv.lookup k = some (.int u)) (hw : Int32.ofInt v = w) (h : mm_at G L nL rt cc cs CP K f (pc + 3) (mm_st1 lv k (.int (u + w))) st x) : mm_vc G L nL rt cc cs CP K (f + 1) pc lv st x := v_step hd ⟨rfl, hn, mm_ldi_i hu (by rw [hw]; exact h)⟩
theorem v_iadd {a b : Int32} (hd : decode cc pc = .ok (.iadd, 1)) (h : mm_at G L nL rt cc cs CP K f (pc + 1) lv (.int (a + b) :: st) x) : mm_vc G L nL rt cc cs CP K (f + 1) pc lv (.int b :: .int a :: st) x := v_step hd ⟨rfl, h⟩
theorem v_isub {a b : Int32} (hd : decode cc pc = .ok (.isub, 1)) (h : mm_at G L nL rt cc cs CP K f (pc + 1) lv (.int (a - b) :: st) x) : mm_vc G L nL rt cc cs CP K (f + 1) pc lv (.int b :: .int a :: st) x := v_step hd ⟨rfl, h⟩
theorem v_imul {a b : Int32} (hd : decode cc pc = .ok (.imul, 1)) (h : mm_at G L nL rt cc cs CP K f (pc + 1) lv (.int (a * b) :: st) x) : mm_vc G L nL rt cc cs CP K (f + 1) pc lv (.int b :: .int a :: st) x := v_step hd ⟨rfl, h⟩
theorem v_iand {a b : Int32} (hd : decode cc pc = .ok (.iand, 1)) (h : mm_at G L nL rt cc cs CP K f (pc + 1) lv (.int (a &&& b) :: st) x) : mm_vc G L nL rt cc cs CP K (f + 1) pc lv (.int b :: .int a :: st) x := v_step hd ⟨rfl, h⟩
theorem v_ior {a b : Int32} (hd : decode cc pc = .ok (.ior, 1)) (h : mm_at G L nL rt cc cs CP K f (pc + 1) lv (.int (a ||| b) :: st) x) : mm_vc G L nL rt cc cs CP K (f + 1) pc lv (.int b :: .int a :: st) x := v_step hd ⟨rfl, h⟩
theorem v_ixor {a b : Int32} (hd : decode cc pc = .ok (.ixor, 1)) (h : mm_at G L nL rt cc cs CP K f (pc + 1) lv (.int (a ^^^ b) :: st) x) : mm_vc G L nL rt cc cs CP K (f + 1) pc lv (.int b :: .int a :: st) x := v_step hd ⟨rfl, h⟩
theorem v_ishl {a b : Int32} (hd : decode cc pc = .ok (.ishl, 1)) (h : mm_at G L nL rt cc cs CP K f (pc + 1) lv (.int (a <<< (b &&& 31)) :: st) x) : mm_vc G L nL rt cc cs CP K (f + 1) pc lv (.int b :: .int a :: st) x := v_step hd ⟨rfl, h⟩
theorem v_ishr {a b : Int32} (hd : decode cc pc = .ok (.ishr, 1)) (h : mm_at G L nL rt cc cs CP K f (pc + 1) lv (.int (a >>> (b &&& 31)) :: st) x) : mm_vc G L nL rt cc cs CP K (f + 1) pc lv (.int b :: .int a :: st) x := v_step hd ⟨rfl, h⟩
theorem v_iushr {a b : Int32} (hd : decode cc pc = .ok (.iushr, 1)) (h : mm_at G L nL rt cc cs CP K f (pc + 1) lv (.int ((a.toUInt32 >>> (b.toUInt32 &&& Int32.toUInt32 31)).toInt32) :: st) x) : mm_vc G L nL rt cc cs CP K (f + 1) pc lv (.int b :: .int a :: st) x := v_step hd ⟨rfl, h⟩
theorem v_idiv {a b : Int32} (hd : decode cc pc = .ok (.idiv, 1)) (hne : ¬ b = 0) (h : mm_at G L nL rt cc cs CP K f (pc + 1) lv (.int (a / b) :: st) x) : mm_vc G L nL rt cc cs CP K (f + 1) pc lv (.int b :: .int a :: st) x := v_step hd ⟨rfl, hne, h⟩
theorem v_irem {a b : Int32} (hd : decode cc pc = .ok (.irem, 1)) (hne : ¬ b = 0) (h : mm_at G L nL rt cc cs CP K f (pc + 1) lv (.int (a - a / b * b) :: st) x) : mm_vc G L nL rt cc cs CP K (f + 1) pc lv (.int b :: .int a :: st) x := v_step hd ⟨rfl, hne, h⟩
theorem v_ineg {a : Int32} (hd : decode cc pc = .ok (.ineg, 1)) (h : mm_at G L nL rt cc cs CP K f (pc + 1) lv (.int (-a) :: st) x) : mm_vc G L nL rt cc cs CP K (f + 1) pc lv (.int a :: st) x := v_step hd ⟨rfl, h⟩
theorem v_ladd {a b : Int64} (hd : decode cc pc = .ok (.ladd, 1)) (h : mm_at G L nL rt cc cs CP K f (pc + 1) lv (.long (a + b) :: st) x) : mm_vc G L nL rt cc cs CP K (f + 1) pc lv (.long b :: .long a :: st) x := v_step hd ⟨rfl, h⟩
theorem v_lsub {a b : Int64} (hd : decode cc pc = .ok (.lsub, 1)) (h : mm_at G L nL rt cc cs CP K f (pc + 1) lv (.long (a - b) :: st) x) : mm_vc G L nL rt cc cs CP K (f + 1) pc lv (.long b :: .long a :: st) x := v_step hd ⟨rfl, h⟩
theorem v_lmul {a b : Int64} (hd : decode cc pc = .ok (.lmul, 1)) (h : mm_at G L nL rt cc cs CP K f (pc + 1) lv (.long (a * b) :: st) x) : mm_vc G L nL rt cc cs CP K (f + 1) pc lv (.long b :: .long a :: st) x := v_step hd ⟨rfl, h⟩
theorem v_land {a b : Int64} (hd : decode cc pc = .ok (.land, 1)) (h : mm_at G L nL rt cc cs CP K f (pc + 1) lv (.long (a &&& b) :: st) x) : mm_vc G L nL rt cc cs CP K (f + 1) pc lv (.long b :: .long a :: st) x := v_step hd ⟨rfl, h⟩
theorem v_lor {a b : Int64} (hd : decode cc pc = .ok (.lor, 1)) (h : mm_at G L nL rt cc cs CP K f (pc + 1) lv (.long (a ||| b) :: st) x) : mm_vc G L nL rt cc cs CP K (f + 1) pc lv (.long b :: .long a :: st) x := v_step hd ⟨rfl, h⟩
theorem v_lxor {a b : Int64} (hd : decode cc pc = .ok (.lxor, 1)) (h : mm_at G L nL rt cc cs CP K f (pc + 1) lv (.long (a ^^^ b) :: st) x) : mm_vc G L nL rt cc cs CP K (f + 1) pc lv (.long b :: .long a :: st) x := v_step hd ⟨rfl, h⟩
theorem v_lshl {a : Int64} {b : Int32} (hd : decode cc pc = .ok (.lshl, 1)) (h : mm_at G L nL rt cc cs CP K f (pc + 1) lv (.long (a <<< (b.toInt64 &&& 63)) :: st) x) : mm_vc G L nL rt cc cs CP K (f + 1) pc lv (.int b :: .long a :: st) x := v_step hd ⟨rfl, h⟩
theorem v_lshr {a : Int64} {b : Int32} (hd : decode cc pc = .ok (.lshr, 1)) (h : mm_at G L nL rt cc cs CP K f (pc + 1) lv (.long (a >>> (b.toInt64 &&& 63)) :: st) x) : mm_vc G L nL rt cc cs CP K (f + 1) pc lv (.int b :: .long a :: st) x := v_step hd ⟨rfl, h⟩
theorem v_lushr {a : Int64} {b : Int32} (hd : decode cc pc = .ok (.lushr, 1)) (h : mm_at G L nL rt cc cs CP K f (pc + 1) lv (.long ((a.toUInt64 >>> (b.toInt64.toUInt64 &&& Int64.toUInt64 63)).toInt64) :: st) x) : mm_vc G L nL rt cc cs CP K (f + 1) pc lv (.int b :: .long a :: st) x := v_step hd ⟨rfl, h⟩
theorem v_i2l {a : Int32} (hd : decode cc pc = .ok (.i2l, 1)) (h : mm_at G L nL rt cc cs CP K f (pc + 1) lv (.long a.toInt64 :: st) x) : mm_vc G L nL rt cc cs CP K (f + 1) pc lv (.int a :: st) x := v_step hd ⟨rfl, h⟩
theorem v_l2i {a : Int64} (hd : decode cc pc = .ok (.l2i, 1)) (h : mm_at G L nL rt cc cs CP K f (pc + 1) lv (.int a.toInt32 :: st) x) : mm_vc G L nL rt cc cs CP K (f + 1) pc lv (.long a :: st) x := v_step hd ⟨rfl, h⟩
theorem v_i2b {a : Int32} (hd : decode cc pc = .ok (.i2b, 1)) (h : mm_at G L nL rt cc cs CP K f (pc + 1) lv (.int a.toInt8.toInt32 :: st) x) : mm_vc G L nL rt cc cs CP K (f + 1) pc lv (.int a :: st) x := v_step hd ⟨rfl, h⟩
theorem v_lcmp {a b : Int64} (hd : decode cc pc = .ok (.lcmp, 1)) (h : mm_at G L nL rt cc cs CP K f (pc + 1) lv (.int (lg_cmp a b) :: st) x) : mm_vc G L nL rt cc cs CP K (f + 1) pc lv (.long b :: .long a :: st) x := v_step hd ⟨rfl, h⟩
theorem v_dup {v : Value} (hd : decode cc pc = .ok (.dup, 1)) (hv : v.category = 1) (h : mm_at G L nL rt cc cs CP K f (pc + 1) lv (v :: v :: st) x) : mm_vc G L nL rt cc cs CP K (f + 1) pc lv (v :: st) x := v_step hd ⟨rfl, hv, h⟩
theorem v_dup2 {v w : Value} (hd : decode cc pc = .ok (.dup2, 1)) (hv : v.category = 1) (hw : w.category = 1) (h : mm_at G L nL rt cc cs CP K f (pc + 1) lv (v :: w :: v :: w :: st) x) : mm_vc G L nL rt cc cs CP K (f + 1) pc lv (v :: w :: st) x := v_step hd ⟨rfl, hv, hw, h⟩
theorem v_pop {v : Value} (hd : decode cc pc = .ok (.pop, 1)) (hv : v.category = 1) (h : mm_at G L nL rt cc cs CP K f (pc + 1) lv st x) : mm_vc G L nL rt cc cs CP K (f + 1) pc lv (v :: st) x := v_step hd ⟨rfl, hv, h⟩
theorem v_icmp_eq {a b : Int32} {o : Int} {t : Nat} (hd : decode cc pc = .ok (.if_icmp .eq o, 3)) (ht : (pc : Int) + o = (t : Int)) (h1 : a = b → mm_at G L nL rt cc cs CP K f t lv st x) (h2 : ¬ (a = b) → mm_at G L nL rt cc cs CP K f (pc + 3) lv st x) : mm_vc G L nL rt cc cs CP K (f + 1) pc lv (.int b :: .int a :: st) x := v_step hd ⟨rfl, by omega, fun q => by rw [ht]; exact h1 q, h2⟩
theorem v_if_eq {a : Int32} {o : Int} {t : Nat} (hd : decode cc pc = .ok (.ifCond .eq o, 3)) (ht : (pc : Int) + o = (t : Int)) (h1 : a = 0 → mm_at G L nL rt cc cs CP K f t lv st x) (h2 : ¬ (a = 0) → mm_at G L nL rt cc cs CP K f (pc + 3) lv st x) : mm_vc G L nL rt cc cs CP K (f + 1) pc lv (.int a :: st) x := v_step hd ⟨rfl, by omega, fun q => by rw [ht]; exact h1 q, h2⟩
theorem v_icmp_ne {a b : Int32} {o : Int} {t : Nat} (hd : decode cc pc = .ok (.if_icmp .ne o, 3)) (ht : (pc : Int) + o = (t : Int)) (h1 : ¬ a = b → mm_at G L nL rt cc cs CP K f t lv st x) (h2 : a = b → mm_at G L nL rt cc cs CP K f (pc + 3) lv st x) : mm_vc G L nL rt cc cs CP K (f + 1) pc lv (.int b :: .int a :: st) x := v_step hd ⟨rfl, by omega, fun q => by rw [ht]; exact h1 q, fun q => h2 (Decidable.of_not_not q)⟩
theorem v_if_ne {a : Int32} {o : Int} {t : Nat} (hd : decode cc pc = .ok (.ifCond .ne o, 3)) (ht : (pc : Int) + o = (t : Int)) (h1 : ¬ a = 0 → mm_at G L nL rt cc cs CP K f t lv st x) (h2 : a = 0 → mm_at G L nL rt cc cs CP K f (pc + 3) lv st x) : mm_vc G L nL rt cc cs CP K (f + 1) pc lv (.int a :: st) x := v_step hd ⟨rfl, by omega, fun q => by rw [ht]; exact h1 q, fun q => h2 (Decidable.of_not_not q)⟩
theorem v_icmp_lt {a b : Int32} {o : Int} {t : Nat} (hd : decode cc pc = .ok (.if_icmp .lt o, 3)) (ht : (pc : Int) + o = (t : Int)) (h1 : a < b → mm_at G L nL rt cc cs CP K f t lv st x) (h2 : ¬ (a < b) → mm_at G L nL rt cc cs CP K f (pc + 3) lv st x) : mm_vc G L nL rt cc cs CP K (f + 1) pc lv (.int b :: .int a :: st) x := v_step hd ⟨rfl, by omega, fun q => by rw [ht]; exact h1 q, h2⟩
theorem v_if_lt {a : Int32} {o : Int} {t : Nat} (hd : decode cc pc = .ok (.ifCond .lt o, 3)) (ht : (pc : Int) + o = (t : Int)) (h1 : a < 0 → mm_at G L nL rt cc cs CP K f t lv st x) (h2 : ¬ (a < 0) → mm_at G L nL rt cc cs CP K f (pc + 3) lv st x) : mm_vc G L nL rt cc cs CP K (f + 1) pc lv (.int a :: st) x := v_step hd ⟨rfl, by omega, fun q => by rw [ht]; exact h1 q, h2⟩
theorem v_icmp_ge {a b : Int32} {o : Int} {t : Nat} (hd : decode cc pc = .ok (.if_icmp .ge o, 3)) (ht : (pc : Int) + o = (t : Int)) (h1 : b ≤ a → mm_at G L nL rt cc cs CP K f t lv st x) (h2 : ¬ (b ≤ a) → mm_at G L nL rt cc cs CP K f (pc + 3) lv st x) : mm_vc G L nL rt cc cs CP K (f + 1) pc lv (.int b :: .int a :: st) x := v_step hd ⟨rfl, by omega, fun q => by rw [ht]; exact h1 q, h2⟩
theorem v_if_ge {a : Int32} {o : Int} {t : Nat} (hd : decode cc pc = .ok (.ifCond .ge o, 3)) (ht : (pc : Int) + o = (t : Int)) (h1 : 0 ≤ a → mm_at G L nL rt cc cs CP K f t lv st x) (h2 : ¬ (0 ≤ a) → mm_at G L nL rt cc cs CP K f (pc + 3) lv st x) : mm_vc G L nL rt cc cs CP K (f + 1) pc lv (.int a :: st) x := v_step hd ⟨rfl, by omega, fun q => by rw [ht]; exact h1 q, h2⟩
theorem v_icmp_gt {a b : Int32} {o : Int} {t : Nat} (hd : decode cc pc = .ok (.if_icmp .gt o, 3)) (ht : (pc : Int) + o = (t : Int)) (h1 : b < a → mm_at G L nL rt cc cs CP K f t lv st x) (h2 : ¬ (b < a) → mm_at G L nL rt cc cs CP K f (pc + 3) lv st x) : mm_vc G L nL rt cc cs CP K (f + 1) pc lv (.int b :: .int a :: st) x := v_step hd ⟨rfl, by omega, fun q => by rw [ht]; exact h1 q, h2⟩
theorem v_if_gt {a : Int32} {o : Int} {t : Nat} (hd : decode cc pc = .ok (.ifCond .gt o, 3)) (ht : (pc : Int) + o = (t : Int)) (h1 : 0 < a → mm_at G L nL rt cc cs CP K f t lv st x) (h2 : ¬ (0 < a) → mm_at G L nL rt cc cs CP K f (pc + 3) lv st x) : mm_vc G L nL rt cc cs CP K (f + 1) pc lv (.int a :: st) x := v_step hd ⟨rfl, by omega, fun q => by rw [ht]; exact h1 q, h2⟩
theorem v_icmp_le {a b : Int32} {o : Int} {t : Nat} (hd : decode cc pc = .ok (.if_icmp .le o, 3)) (ht : (pc : Int) + o = (t : Int)) (h1 : a ≤ b → mm_at G L nL rt cc cs CP K f t lv st x) (h2 : ¬ (a ≤ b) → mm_at G L nL rt cc cs CP K f (pc + 3) lv st x) : mm_vc G L nL rt cc cs CP K (f + 1) pc lv (.int b :: .int a :: st) x := v_step hd ⟨rfl, by omega, fun q => by rw [ht]; exact h1 q, h2⟩
theorem v_if_le {a : Int32} {o : Int} {t : Nat} (hd : decode cc pc = .ok (.ifCond .le o, 3)) (ht : (pc : Int) + o = (t : Int)) (h1 : a ≤ 0 → mm_at G L nL rt cc cs CP K f t lv st x) (h2 : ¬ (a ≤ 0) → mm_at G L nL rt cc cs CP K f (pc + 3) lv st x) : mm_vc G L nL rt cc cs CP K (f + 1) pc lv (.int a :: st) x := v_step hd ⟨rfl, by omega, fun q => by rw [ht]; exact h1 q, h2⟩
theorem v_goto {o : Int} {t : Nat} (hd : decode cc pc = .ok (.goto o, 3)) (ht : (pc : Int) + o = (t : Int)) (h : mm_at G L nL rt cc cs CP K f t lv st x) : mm_vc G L nL rt cc cs CP K (f + 1) pc lv st x := v_step hd ⟨rfl, by omega, by rw [ht]; exact h⟩
def mm_sw (f : Nat → Prop) (a : Int32) (pc : Nat) (d : Int) : Int → List Int → Prop
  | _, [] => 0 ≤ (pc : Int) + d ∧ f ((pc : Int) + d).toNat
  | lo, o :: os => (a = Int32.ofInt lo → 0 ≤ (pc : Int) + o ∧ f ((pc : Int) + o).toNat) ∧ (¬ a = Int32.ofInt lo → mm_sw f a pc d (lo + 1) os)
theorem sw_n {f : Nat → Prop} {a : Int32} {pc : Nat} {d lo : Int} {t : Nat} (ht : (pc : Int) + d = (t : Int)) (h : f t) : mm_sw f a pc d lo [] := by
  refine ⟨by omega, ?_⟩
  rw [ht]
  exact h
theorem sw_c {f : Nat → Prop} {a w : Int32} {pc : Nat} {d lo o : Int} {os : List Int} {t : Nat} (hw : Int32.ofInt lo = w) (ht : (pc : Int) + o = (t : Int)) (h1 : a = w → f t) (h2 : ¬ a = w → mm_sw f a pc d (lo + 1) os) : mm_sw f a pc d lo (o :: os) := by
  subst hw
  refine ⟨fun q => ⟨by omega, ?_⟩, h2⟩
  rw [ht]
  exact h1 q
theorem mm_tab_v {v : Int32} {pc : Nat} {f : Nat → Prop} : ∀ (os : List Int) (lo : Int), v.toInt < lo → mm_tab v pc f lo os
  | [], _, _ => trivial
  | _ :: os, lo, h => ⟨fun q => by omega, mm_tab_v os (lo + 1) (by omega)⟩
theorem mm_sw_tab {f : Nat → Prop} {a : Int32} {pc : Nat} {d : Int} : ∀ (os : List Int) (lo : Int), -2 ^ 31 ≤ lo → lo + os.length ≤ 2 ^ 31 → mm_sw f a pc d lo os → mm_tab a pc f lo os ∧ ((a.toInt < lo ∨ lo + os.length ≤ a.toInt) → 0 ≤ (pc : Int) + d ∧ f ((pc : Int) + d).toNat)
  | [], lo, _, _, h => ⟨trivial, fun _ => h⟩
  | o :: os, lo, h1, h2, h => by
    have hl : ((o :: os).length : Int) = os.length + 1 := by simp
    rw [hl] at h2 ⊢
    have ha : (Int32.ofInt lo).toInt = lo := Int32.toInt_ofInt_of_le h1 (by omega)
    by_cases e : a = Int32.ofInt lo
    · have ea : a.toInt = lo := by rw [e, ha]
      exact ⟨⟨fun _ => h.1 e, mm_tab_v os (lo + 1) (by omega)⟩, fun q => by omega⟩
    · have ea : ¬ a.toInt = lo := fun q => e (Int32.toInt_inj.mp (by rw [ha, q]))
      obtain ⟨b1, b2⟩ := mm_sw_tab os (lo + 1) (by omega) (by omega) (h.2 e)
      exact ⟨⟨fun q => absurd q ea, b1⟩, fun q => b2 (by omega)⟩
theorem v_sw {d lo hi : Int} {os : Array Int} {n : Nat} {a : Int32} (hd : decode cc pc = .ok (.tableswitch d lo hi os, n)) (h2 : os.size = (hi + 1 - lo).toNat) (h3 : lo ≤ hi) (h5 : -2 ^ 31 ≤ lo) (h6 : hi < 2 ^ 31) (h : mm_sw (fun t => mm_at G L nL rt cc cs CP K f t lv st x) a pc d lo os.toList) : mm_vc G L nL rt cc cs CP K (f + 1) pc lv (.int a :: st) x := by
  have hl : (os.toList.length : Int) = hi + 1 - lo := by rw [Array.length_toList, h2]; omega
  obtain ⟨q1, q2⟩ := mm_sw_tab os.toList lo h5 (by omega) h
  exact v_step hd ⟨fun q => q2 (by omega), h2, h3, q1⟩
theorem v_table {d lo hi : Int} {os : Array Int} {n : Nat} {a : Int32} (hd : decode cc pc = .ok (.tableswitch d lo hi os, n)) (h1 : (a.toInt < lo ∨ hi < a.toInt) → 0 ≤ (pc : Int) + d ∧ mm_at G L nL rt cc cs CP K f ((pc : Int) + d).toNat lv st x) (h2 : os.size = (hi + 1 - lo).toNat) (h3 : lo ≤ hi) (h4 : mm_tab a pc (fun t => mm_at G L nL rt cc cs CP K f t lv st x) lo os.toList) : mm_vc G L nL rt cc cs CP K (f + 1) pc lv (.int a :: st) x := v_step hd ⟨h1, h2, h3, h4⟩
theorem v_get {k a : Nat} {q : Nat × Nat × Nat} {d : Nat × Nat} (hd : decode cc pc = .ok (.getfield k, 3)) (hq : G.1 k = some q) (hc : mm_ci L a = some q.1) (hf : mm_fd L a q.2.1 = some d) (h : mm_at G L nL rt cc cs CP K f (pc + 3) lv (mm_fv x d :: st) x) : mm_vc G L nL rt cc cs CP K (f + 1) pc lv (.ref a :: st) x := v_step hd ⟨rfl, mm_o_i hq ⟨hc, mm_o_i hf h⟩⟩
theorem v_getR {k a r : Nat} {q : Nat × Nat × Nat} (hd : decode cc pc = .ok (.getfield k, 3)) (hq : G.1 k = some q) (hc : mm_ci L a = some q.1) (hf : mm_fd L a q.2.1 = some (0, r)) (h : mm_at G L nL rt cc cs CP K f (pc + 3) lv (.ref r :: st) x) : mm_vc G L nL rt cc cs CP K (f + 1) pc lv (.ref a :: st) x := v_step hd ⟨rfl, mm_o_i hq ⟨hc, mm_o_i hf h⟩⟩
theorem v_getI {k a r : Nat} {q : Nat × Nat × Nat} (hd : decode cc pc = .ok (.getfield k, 3)) (hq : G.1 k = some q) (hc : mm_ci L a = some q.1) (hf : mm_fd L a q.2.1 = some (1, r)) (h : mm_at G L nL rt cc cs CP K f (pc + 3) lv (.int (x.1 r) :: st) x) : mm_vc G L nL rt cc cs CP K (f + 1) pc lv (.ref a :: st) x := v_step hd ⟨rfl, mm_o_i hq ⟨hc, mm_o_i hf h⟩⟩
theorem v_getL {k a r : Nat} {q : Nat × Nat × Nat} (hd : decode cc pc = .ok (.getfield k, 3)) (hq : G.1 k = some q) (hc : mm_ci L a = some q.1) (hf : mm_fd L a q.2.1 = some (2, r)) (h : mm_at G L nL rt cc cs CP K f (pc + 3) lv (.long (x.2.1 r) :: st) x) : mm_vc G L nL rt cc cs CP K (f + 1) pc lv (.ref a :: st) x := v_step hd ⟨rfl, mm_o_i hq ⟨hc, mm_o_i hf h⟩⟩
theorem v_putI {k a ci j r : Nat} {v : Int32} (hd : decode cc pc = .ok (.putfield k, 3)) (hq : G.1 k = some (ci, j, 0)) (hc : mm_ci L a = some ci) (hf : mm_fd L a j = some (1, r)) (h : mm_at G L nL rt cc cs CP K f (pc + 3) lv st (mm_setI x r v)) : mm_vc G L nL rt cc cs CP K (f + 1) pc lv (.int v :: .ref a :: st) x := v_step hd ⟨rfl, mm_o_i hq ⟨hc, mm_o_i hf ⟨Or.inl rfl, h⟩⟩⟩
theorem v_putZ {k a ci j r : Nat} {v : Int32} (hd : decode cc pc = .ok (.putfield k, 3)) (hq : G.1 k = some (ci, j, 1)) (hc : mm_ci L a = some ci) (hf : mm_fd L a j = some (1, r)) (hv : v = 0 ∨ v = 1) (h : mm_at G L nL rt cc cs CP K f (pc + 3) lv st (mm_setI x r v)) : mm_vc G L nL rt cc cs CP K (f + 1) pc lv (.int v :: .ref a :: st) x := v_step hd ⟨rfl, mm_o_i hq ⟨hc, mm_o_i hf ⟨Or.inr ⟨rfl, hv⟩, h⟩⟩⟩
theorem v_putL {k a ci j r : Nat} {v : Int64} (hd : decode cc pc = .ok (.putfield k, 3)) (hq : G.1 k = some (ci, j, 2)) (hc : mm_ci L a = some ci) (hf : mm_fd L a j = some (2, r)) (h : mm_at G L nL rt cc cs CP K f (pc + 3) lv st (mm_setL x r v)) : mm_vc G L nL rt cc cs CP K (f + 1) pc lv (.long v :: .ref a :: st) x := v_step hd ⟨rfl, mm_o_i hq ⟨hc, mm_o_i hf ⟨rfl, h⟩⟩⟩
theorem v_baload {a n r : Nat} {j : Int32} (hd : decode cc pc = .ok (.baload, 1)) (hq : mm_ar L a = some (0, n, r)) (hj : vp_in j n) (h : mm_at G L nL rt cc cs CP K f (pc + 1) lv (.int (x.2.2 r j.toNatClampNeg) :: st) x) : mm_vc G L nL rt cc cs CP K (f + 1) pc lv (.int j :: .ref a :: st) x := v_step hd ⟨rfl, mm_o_i hq ⟨rfl, hj, h⟩⟩
theorem mm_if_f {c : Prop} [Decidable c] {X Y : Prop} (hc : ¬ c) (h : Y) : if c then X else Y := by
  rw [if_neg hc]
  exact h
theorem v_iaload {a n r : Nat} {j : Int32} (hd : decode cc pc = .ok (.iaload, 1)) (ha : ¬ a = 1000) (hq : mm_ar L a = some (1, n, r)) (hj : vp_in j n) (h : mm_at G L nL rt cc cs CP K f (pc + 1) lv (.int (x.2.2 r j.toNatClampNeg) :: st) x) : mm_vc G L nL rt cc cs CP K (f + 1) pc lv (.int j :: .ref a :: st) x := v_step hd ⟨rfl, mm_if_f ha (mm_o_i hq ⟨rfl, hj, h⟩)⟩
theorem v_sld {n : Nat} {xs : Nat → Int32} {j : Int32} (hd : decode cc pc = .ok (.iaload, 1)) (hq : G.2.2.2.2.2 = some (n, xs)) (hj : vp_in j n) (h : mm_at G L nL rt cc cs CP K f (pc + 1) lv (.int (xs j.toNatClampNeg) :: st) x) : mm_vc G L nL rt cc cs CP K (f + 1) pc lv (.int j :: .ref 1000 :: st) x := v_step hd ⟨rfl, mm_o_i hq ⟨hj, h⟩⟩
theorem v_slen {n : Nat} {xs : Nat → Int32} (hd : decode cc pc = .ok (.arraylength, 1)) (hq : G.2.2.2.2.2 = some (n, xs)) (h : mm_at G L nL rt cc cs CP K f (pc + 1) lv (.int (Int32.ofNat n) :: st) x) : mm_vc G L nL rt cc cs CP K (f + 1) pc lv (.ref 1000 :: st) x := v_step hd ⟨rfl, mm_o_i hq h⟩
theorem v_bastore {a n r : Nat} {j d : Int32} (hd : decode cc pc = .ok (.bastore, 1)) (hq : mm_ar L a = some (0, n, r)) (hj : vp_in j n) (h : mm_at G L nL rt cc cs CP K f (pc + 1) lv st (mm_setA x r (upd (x.2.2 r) j.toNatClampNeg (vp_nar .byte d)))) : mm_vc G L nL rt cc cs CP K (f + 1) pc lv (.int d :: .int j :: .ref a :: st) x := v_step hd ⟨rfl, mm_o_i hq ⟨rfl, hj, h⟩⟩
theorem v_iastore {a n r : Nat} {j d : Int32} (hd : decode cc pc = .ok (.iastore, 1)) (hq : mm_ar L a = some (1, n, r)) (hj : vp_in j n) (h : mm_at G L nL rt cc cs CP K f (pc + 1) lv st (mm_setA x r (upd (x.2.2 r) j.toNatClampNeg d))) : mm_vc G L nL rt cc cs CP K (f + 1) pc lv (.int d :: .int j :: .ref a :: st) x := v_step hd ⟨rfl, mm_o_i hq ⟨rfl, hj, h⟩⟩
theorem v_alen {a t n r : Nat} (hd : decode cc pc = .ok (.arraylength, 1)) (ha : ¬ a = 1000) (hq : mm_ar L a = some (t, n, r)) (ht : t < 2) (h : mm_at G L nL rt cc cs CP K f (pc + 1) lv (.int (Int32.ofNat n) :: st) x) : mm_vc G L nL rt cc cs CP K (f + 1) pc lv (.ref a :: st) x := v_step hd ⟨rfl, mm_if_f ha (mm_o_i hq ⟨ht, h⟩)⟩
theorem mm_call_i {n : Nat} {S : mm_P} {as r : List Value} {k : List Value → Option Value → mm_S → Prop} (hs : st = as.reverse ++ r) (hn : as.length = n) (hcat : (r.map Value.category).sum ≤ 8) (h : S as x (k r)) : n ≤ st.length ∧ ((st.drop n).map Value.category).sum ≤ 8 ∧ S (st.take n).reverse x (k (st.drop n)) := by
  subst hs
  have e1 : (as.reverse ++ r).drop n = r := by rw [← hn, ← List.length_reverse (as := as), List.drop_left]
  have e2 : ((as.reverse ++ r).take n).reverse = as := by rw [← hn, ← List.length_reverse (as := as), List.take_left, List.reverse_reverse]
  rw [e1, e2]
  exact ⟨by rw [List.length_append, List.length_reverse]; omega, hcat, h⟩
theorem mm_callV_i {n ci : Nat} {S : mm_P} {as r : List Value} {k : List Value → Option Value → mm_S → Prop} (hs : st = as.reverse ++ r) (hn : as.length = n) (hcat : (r.map Value.category).sum ≤ 8) (hrc : mm_rcv L ci as) (h : S as x (k r)) : n ≤ st.length ∧ ((st.drop n).map Value.category).sum ≤ 8 ∧ mm_rcv L ci (st.take n).reverse ∧ S (st.take n).reverse x (k (st.drop n)) := by
  subst hs
  have e1 : (as.reverse ++ r).drop n = r := by rw [← hn, ← List.length_reverse (as := as), List.drop_left]
  have e2 : ((as.reverse ++ r).take n).reverse = as := by rw [← hn, ← List.length_reverse (as := as), List.take_left, List.reverse_reverse]
  rw [e1, e2]
  exact ⟨by rw [List.length_append, List.length_reverse]; omega, hcat, hrc, h⟩
theorem v_callS {k n : Nat} {S : mm_P} {as r : List Value} (hd : decode cc pc = .ok (.invokestatic k, 3)) (hq : G.2.2.2.1 k = some (n, S)) (hs : st = as.reverse ++ r) (hn : as.length = n) (hcat : (r.map Value.category).sum ≤ 8) (h : S as x (fun v x' => mm_at G L nL rt cc cs CP K f (pc + 3) lv (mm_push v r) x')) : mm_vc G L nL rt cc cs CP K (f + 1) pc lv st x := v_step hd ⟨rfl, mm_o_i hq (mm_call_i (S := S) (x := x) (k := fun r v x' => mm_at G L nL rt cc cs CP K f (pc + 3) lv (mm_push v r) x') hs hn hcat h)⟩
theorem v_callV {k n ci : Nat} {S : mm_P} {as r : List Value} (hd : decode cc pc = .ok (.invokevirtual k, 3)) (hq : G.2.2.2.2.1 k = some (n, ci, S)) (hs : st = as.reverse ++ r) (hn : as.length = n) (hcat : (r.map Value.category).sum ≤ 8) (hrc : mm_rcv L ci as) (h : S as x (fun v x' => mm_at G L nL rt cc cs CP K f (pc + 3) lv (mm_push v r) x')) : mm_vc G L nL rt cc cs CP K (f + 1) pc lv st x := v_step hd ⟨rfl, mm_o_i hq (mm_callV_i (S := S) (x := x) (k := fun r v x' => mm_at G L nL rt cc cs CP K f (pc + 3) lv (mm_push v r) x') hs hn hcat hrc h)⟩
theorem v_ireturn {v : Int32} {ty : FieldType} (hd : decode cc pc = .ok (.ireturn, 1)) (ht : rt = some ty) (hn : narrow ty (.int v) = .int v) (h : K (some (.int v)) x) : mm_vc G L nL rt cc cs CP K (f + 1) pc lv [.int v] x := v_step hd ⟨rfl, mm_o_i ht ⟨hn, h⟩⟩
theorem v_zreturn {v : Int32} (hd : decode cc pc = .ok (.ireturn, 1)) (ht : rt = some .boolean) (hb : v = 0 ∨ v = 1) (h : K (some (.int v)) x) : mm_vc G L nL rt cc cs CP K (f + 1) pc lv [.int v] x := v_step hd ⟨rfl, mm_o_i ht ⟨mm_nz hb, h⟩⟩
theorem v_lreturn {v : Int64} (hd : decode cc pc = .ok (.lreturn, 1)) (ht : rt = some .long) (h : K (some (.long v)) x) : mm_vc G L nL rt cc cs CP K (f + 1) pc lv [.long v] x := v_step hd ⟨rfl, ht, h⟩
theorem v_return (hd : decode cc pc = .ok (.return_, 1)) (ht : rt = none) (h : K none x) : mm_vc G L nL rt cc cs CP K (f + 1) pc lv [] x := v_step hd ⟨rfl, ht, rfl, h⟩
end V4
