/-! The law: the skeleton's texts up to the entry; the calls of the loop; a row for cell. -/
def R_law : String := "TwoSlotsLaw"
def lw_P (b : Addr) (xs : List Int32) (args : Array Value) (s : State) : Prop := args = #[.ref b] ∧ s.IntsAt b xs ∧ xs.length ≤ 2563 ∧ (Jvm.Cond.and given_1 narrow_1).before args s = true
def lw_Q (_ : Array Value) (s : State) (o : Outcome) (t : State) : Prop := o = .returned (some (.int 1)) ∧ Framed s o t [] 18 8672
def lw_Z (below : List Frame) (a : Array Value) (s : State) : State → Prop := fun t => ∃ o, t.status = .running ∧ Ended t below o ∧ lw_Q a s o t
/-- the law's own end, with 1 on the stack, nothing written that was there before, its room as the claim has it -/
theorem lw_ret {p : Program} {l : Launch} {e : Env} {s : State} {m : MethodId} {below : List Frame} {meth : Method} {c : Code} {b : Nat} (hx : p.tables.exec = Jvm.exec) (hb : c.code = code) (hr : meth.sig.returnType = ret) (hlocks : meth.locks = false) {pc : Nat} {H : Heap} {ls : Array Slot} (hdg : decode code pc = .ok (.ireturn, 1)) : W p l e room_1 s m #[Value.ref b] below meth c H [] 18 8672 (lw_Z below #[Value.ref b] s) (F0 m pc ls [.int 1]) := by
  intro T hT X
  obtain ⟨fs, hret, hrun, hended, hW, hframe⟩ := X.leave (v := some (.int 1)) (hlocks := hlocks) (fun h => by rw [hr] at h; cases h)
  have hmeth' : T.vm.method? m = some meth := X.method'
  refine ⟨T.setFrames fs, ?_, .returned (some (.int 1)), hrun, hended, rfl, ⟨_, rfl⟩, hW, hframe⟩
  jvm_step X.here [X.here.top, hx, hb, hdg, hmeth', hr, ret, narrow_b1]
  (try refine ⟨rfl, ?_⟩); (try refine ⟨rfl, ?_⟩)
  first | (intro acts; rw [hret _ acts rfl rfl rfl]) | rw [hret _ _ rfl rfl rfl]
  exact Steps.refl _
/-- what holds at the law's entry: the machine, the code, the tables' words (any of lw_tbl by 'hts w (by decide +kernel)'), the script of L ints xs at the cell b, what the Statement gives of the start (any of its parts by flat_of_before) -/
def lw_At (p : Program) (s : State) (m : MethodId) (meth : Method) (c : Code) (b L : Nat) (xs : Nat → Int32) : Prop :=
  p.tables.exec = Jvm.exec ∧ c.code = code ∧ meth.sig.returnType = ret ∧ c.maxLocals = 4 ∧ s.vm.findClass R_law = some m.cls ∧ (∀ w ∈ lw_tbl, w.before #[Value.ref b] s = true) ∧ va_X b L xs s s.heap ∧ b < s.heap.size ∧ meth.locks = false ∧ (Jvm.Cond.and given_1 narrow_1).before #[Value.ref b] s = true
theorem LL_e : LL = LC ++ LR := rfl
def lw_cv (l : Launch) (idx : Nat) (q : Nat × Nat × mm_P) : Prop := mm_Cvt l NW CL TB LL "TwoSlotsLaw" 10 374 idx q ∨ ∃ S, q.2.2 = mm_LS S ∧ mm_Cvt l NW CL TB LC "TwoSlotsLaw" 10 374 idx (q.1, q.2.1, S)
theorem cv_21 (l : Launch) : lw_cv l 21 (5, 0, mm_LS S_make) := Or.inr ⟨S_make, rfl, mm_cvt_i (c_make l) (mm_cb_i rfl rfl (by decide) (by decide) tc_TS_make ti_TS ⟨by decide, by decide, by decide +kernel⟩ (Or.inl tl_LW_21)) rfl tv_TS_make tx_TS_make⟩
theorem cv_25 (l : Launch) : lw_cv l 25 (5, 5, S_m_make) := Or.inl (mm_cvt_i (c_m_make l) (mm_cb_i rfl rfl (by decide) (by decide) tc_MO_make ti_MO ⟨by decide, by decide, by decide +kernel⟩ (Or.inl tl_LW_25)) rfl tv_MO_make tx_MO_make)
theorem cv_26 (l : Launch) : lw_cv l 26 (2, 0, mm_LS S_pack) := Or.inr ⟨S_pack, rfl, mm_cvt_i (c_pack l) (mm_cb_i rfl rfl (by decide) (by decide) tc_TS_pack ti_TS ⟨by decide, by decide, by decide +kernel⟩ (Or.inl tl_LW_26)) rfl tv_TS_pack tx_TS_pack⟩
theorem cv_30 (l : Launch) : lw_cv l 30 (2, 5, S_m_pack) := Or.inl (mm_cvt_i (c_m_pack l) (mm_cb_i rfl rfl (by decide) (by decide) tc_MO_pack ti_MO ⟨by decide, by decide, by decide +kernel⟩ (Or.inl tl_LW_30)) rfl tv_MO_pack tx_MO_pack)
theorem cv_31 (l : Launch) : lw_cv l 31 (3, 0, mm_LS S_alter) := Or.inr ⟨S_alter, rfl, mm_cvt_i (c_alter l) (mm_cb_i rfl rfl (by decide) (by decide) tc_TS_alter ti_TS ⟨by decide, by decide, by decide +kernel⟩ (Or.inl tl_LW_31)) rfl tv_TS_alter tx_TS_alter⟩
theorem cv_35 (l : Launch) : lw_cv l 35 (3, 5, S_m_alter) := Or.inl (mm_cvt_i (c_m_alter l) (mm_cb_i rfl rfl (by decide) (by decide) tc_MO_alter ti_MO ⟨by decide, by decide, by decide +kernel⟩ (Or.inl tl_LW_35)) rfl tv_MO_alter tx_MO_alter)
theorem cv_36 (l : Launch) : lw_cv l 36 (1, 0, mm_LS S_offer) := Or.inr ⟨S_offer, rfl, mm_cvt_i (c_offer l) (mm_cb_i rfl rfl (by decide) (by decide) tc_TS_offer ti_TS ⟨by decide, by decide, by decide +kernel⟩ (Or.inl tl_LW_36)) rfl tv_TS_offer tx_TS_offer⟩
theorem cv_40 (l : Launch) : lw_cv l 40 (1, 5, S_m_offer) := Or.inl (mm_cvt_i (c_m_offer l) (mm_cb_i rfl rfl (by decide) (by decide) tc_MO_offer ti_MO ⟨by decide, by decide, by decide +kernel⟩ (Or.inl tl_LW_40)) rfl tv_MO_offer tx_MO_offer)
theorem cv_41 (l : Launch) : lw_cv l 41 (1, 0, mm_LS S_block) := Or.inr ⟨S_block, rfl, mm_cvt_i (c_block l) (mm_cb_i rfl rfl (by decide) (by decide) tc_TS_block ti_TS ⟨by decide, by decide, by decide +kernel⟩ (Or.inl tl_LW_41)) rfl tv_TS_block tx_TS_block⟩
theorem cv_44 (l : Launch) : lw_cv l 44 (1, 5, S_m_block) := Or.inl (mm_cvt_i (c_m_block l) (mm_cb_i rfl rfl (by decide) (by decide) tc_MO_block ti_MO ⟨by decide, by decide, by decide +kernel⟩ (Or.inl tl_LW_44)) rfl tv_MO_block tx_MO_block)
theorem cv_45 (l : Launch) : lw_cv l 45 (1, 0, mm_LS S_finish) := Or.inr ⟨S_finish, rfl, mm_cvt_i (c_finish l) (mm_cb_i rfl rfl (by decide) (by decide) tc_TS_finish ti_TS ⟨by decide, by decide, by decide +kernel⟩ (Or.inl tl_LW_45)) rfl tv_TS_finish tx_TS_finish⟩
theorem cv_48 (l : Launch) : lw_cv l 48 (1, 5, S_m_finish) := Or.inl (mm_cvt_i (c_m_finish l) (mm_cb_i rfl rfl (by decide) (by decide) tc_MO_finish ti_MO ⟨by decide, by decide, by decide +kernel⟩ (Or.inl tl_LW_48)) rfl tv_MO_finish tx_MO_finish)
theorem cv_49 (l : Launch) : lw_cv l 49 (1, 0, mm_LS S_boot) := Or.inr ⟨S_boot, rfl, mm_cvt_i (c_boot l) (mm_cb_i rfl rfl (by decide) (by decide) tc_TS_boot ti_TS ⟨by decide, by decide, by decide +kernel⟩ (Or.inl tl_LW_49)) rfl tv_TS_boot tx_TS_boot⟩
theorem cv_52 (l : Launch) : lw_cv l 52 (1, 5, S_m_boot) := Or.inl (mm_cvt_i (c_m_boot l) (mm_cb_i rfl rfl (by decide) (by decide) tc_MO_boot ti_MO ⟨by decide, by decide, by decide +kernel⟩ (Or.inl tl_LW_52)) rfl tv_MO_boot tx_MO_boot)
theorem cv_53 (l : Launch) : lw_cv l 53 (1, 0, mm_LS S_confirm) := Or.inr ⟨S_confirm, rfl, mm_cvt_i (c_confirm l) (mm_cb_i rfl rfl (by decide) (by decide) tc_TS_confirm ti_TS ⟨by decide, by decide, by decide +kernel⟩ (Or.inl tl_LW_53)) rfl tv_TS_confirm tx_TS_confirm⟩
theorem cv_56 (l : Launch) : lw_cv l 56 (1, 5, S_m_confirm) := Or.inl (mm_cvt_i (c_m_confirm l) (mm_cb_i rfl rfl (by decide) (by decide) tc_MO_confirm ti_MO ⟨by decide, by decide, by decide +kernel⟩ (Or.inl tl_LW_56)) rfl tv_MO_confirm tx_MO_confirm)
theorem cv_57 (l : Launch) : lw_cv l 57 (2, 0, mm_LS S_tick) := Or.inr ⟨S_tick, rfl, mm_cvt_i (c_tick l) (mm_cb_i rfl rfl (by decide) (by decide) tc_TS_tick ti_TS ⟨by decide, by decide, by decide +kernel⟩ (Or.inl tl_LW_57)) rfl tv_TS_tick tx_TS_tick⟩
theorem cv_60 (l : Launch) : lw_cv l 60 (2, 5, S_m_tick) := Or.inl (mm_cvt_i (c_m_tick l) (mm_cb_i rfl rfl (by decide) (by decide) tc_MO_tick ti_MO ⟨by decide, by decide, by decide +kernel⟩ (Or.inl tl_LW_60)) rfl tv_MO_tick tx_MO_tick)
theorem cv_61 (l : Launch) : lw_cv l 61 (2, 0, mm_LS S_revoke) := Or.inr ⟨S_revoke, rfl, mm_cvt_i (c_revoke l) (mm_cb_i rfl rfl (by decide) (by decide) tc_TS_revoke ti_TS ⟨by decide, by decide, by decide +kernel⟩ (Or.inl tl_LW_61)) rfl tv_TS_revoke tx_TS_revoke⟩
theorem cv_64 (l : Launch) : lw_cv l 64 (2, 5, S_m_revoke) := Or.inl (mm_cvt_i (c_m_revoke l) (mm_cb_i rfl rfl (by decide) (by decide) tc_MO_revoke ti_MO ⟨by decide, by decide, by decide +kernel⟩ (Or.inl tl_LW_64)) rfl tv_MO_revoke tx_MO_revoke)
theorem cv_65 (l : Launch) : lw_cv l 65 (3, 0, mm_LS S_cut) := Or.inr ⟨S_cut, rfl, mm_cvt_i (c_cut l) (mm_cb_i rfl rfl (by decide) (by decide) tc_TS_cut ti_TS ⟨by decide, by decide, by decide +kernel⟩ (Or.inl tl_LW_65)) rfl tv_TS_cut tx_TS_cut⟩
theorem cv_68 (l : Launch) : lw_cv l 68 (3, 5, S_m_cut) := Or.inl (mm_cvt_i (c_m_cut l) (mm_cb_i rfl rfl (by decide) (by decide) tc_MO_cut ti_MO ⟨by decide, by decide, by decide +kernel⟩ (Or.inl tl_LW_68)) rfl tv_MO_cut tx_MO_cut)
theorem cv_69 (l : Launch) : lw_cv l 69 (1, 0, mm_LS S_start) := Or.inr ⟨S_start, rfl, mm_cvt_i (c_start l) (mm_cb_i rfl rfl (by decide) (by decide) tc_TS_start ti_TS ⟨by decide, by decide, by decide +kernel⟩ (Or.inl tl_LW_69)) rfl tv_TS_start tx_TS_start⟩
theorem cv_72 (l : Launch) : lw_cv l 72 (1, 5, S_m_start) := Or.inl (mm_cvt_i (c_m_start l) (mm_cb_i rfl rfl (by decide) (by decide) tc_MO_start ti_MO ⟨by decide, by decide, by decide +kernel⟩ (Or.inl tl_LW_72)) rfl tv_MO_start tx_MO_start)
theorem cv_73 (l : Launch) : lw_cv l 73 (4, 0, mm_LS S_rot) := Or.inr ⟨S_rot, rfl, mm_cvt_i (c_rot l) (mm_cb_i rfl rfl (by decide) (by decide) tc_TS_rot ti_TS ⟨by decide, by decide, by decide +kernel⟩ (Or.inl tl_LW_73)) rfl tv_TS_rot tx_TS_rot⟩
theorem cv_77 (l : Launch) : lw_cv l 77 (4, 5, S_m_rot) := Or.inl (mm_cvt_i (c_m_rot l) (mm_cb_i rfl rfl (by decide) (by decide) tc_MO_rot ti_MO ⟨by decide, by decide, by decide +kernel⟩ (Or.inl tl_LW_77)) rfl tv_MO_rot tx_MO_rot)
theorem cv_78 (l : Launch) : lw_cv l 78 (3, 0, mm_LS S_octet) := Or.inr ⟨S_octet, rfl, mm_cvt_i (c_octet l) (mm_cb_i rfl rfl (by decide) (by decide) tc_TS_octet ti_TS ⟨by decide, by decide, by decide +kernel⟩ (Or.inl tl_LW_78)) rfl tv_TS_octet tx_TS_octet⟩
theorem cv_81 (l : Launch) : lw_cv l 81 (3, 5, S_m_octet) := Or.inl (mm_cvt_i (c_m_octet l) (mm_cb_i rfl rfl (by decide) (by decide) tc_MO_octet ti_MO ⟨by decide, by decide, by decide +kernel⟩ (Or.inl tl_LW_81)) rfl tv_MO_octet tx_MO_octet)
theorem cv_82 (l : Launch) : lw_cv l 82 (1, 0, mm_LS S_running) := Or.inr ⟨S_running, rfl, mm_cvt_i (c_running l) (mm_cb_i rfl rfl (by decide) (by decide) tc_TS_running ti_TS ⟨by decide, by decide, by decide +kernel⟩ (Or.inl tl_LW_82)) rfl tv_TS_running tx_TS_running⟩
theorem cv_85 (l : Launch) : lw_cv l 85 (1, 5, S_m_running) := Or.inl (mm_cvt_i (c_m_running l) (mm_cb_i rfl rfl (by decide) (by decide) tc_MO_running ti_MO ⟨by decide, by decide, by decide +kernel⟩ (Or.inl tl_LW_85)) rfl tv_MO_running tx_MO_running)
theorem cv_86 (l : Launch) : lw_cv l 86 (1, 0, mm_LS S_watchdog) := Or.inr ⟨S_watchdog, rfl, mm_cvt_i (c_watchdog l) (mm_cb_i rfl rfl (by decide) (by decide) tc_TS_watchdog ti_TS ⟨by decide, by decide, by decide +kernel⟩ (Or.inl tl_LW_86)) rfl tv_TS_watchdog tx_TS_watchdog⟩
theorem cv_89 (l : Launch) : lw_cv l 89 (1, 5, S_m_watchdog) := Or.inl (mm_cvt_i (c_m_watchdog l) (mm_cb_i rfl rfl (by decide) (by decide) tc_MO_watchdog ti_MO ⟨by decide, by decide, by decide +kernel⟩ (Or.inl tl_LW_89)) rfl tv_MO_watchdog tx_MO_watchdog)
theorem cv_90 (l : Launch) : lw_cv l 90 (3, 0, mm_LS S_slot) := Or.inr ⟨S_slot, rfl, mm_cvt_i (c_slot l) (mm_cb_i rfl rfl (by decide) (by decide) tc_TS_slot ti_TS ⟨by decide, by decide, by decide +kernel⟩ (Or.inl tl_LW_90)) rfl tv_TS_slot tx_TS_slot⟩
theorem cv_93 (l : Launch) : lw_cv l 93 (3, 5, S_m_slot) := Or.inl (mm_cvt_i (c_m_slot l) (mm_cb_i rfl rfl (by decide) (by decide) tc_MO_slot ti_MO ⟨by decide, by decide, by decide +kernel⟩ (Or.inl tl_LW_93)) rfl tv_MO_slot tx_MO_slot)
theorem cv_94 (l : Launch) : lw_cv l 94 (2, 0, mm_LS S_record) := Or.inr ⟨S_record, rfl, mm_cvt_i (c_record l) (mm_cb_i rfl rfl (by decide) (by decide) tc_TS_record ti_TS ⟨by decide, by decide, by decide +kernel⟩ (Or.inl tl_LW_94)) rfl tv_TS_record tx_TS_record⟩
theorem cv_97 (l : Launch) : lw_cv l 97 (2, 5, S_m_record) := Or.inl (mm_cvt_i (c_m_record l) (mm_cb_i rfl rfl (by decide) (by decide) tc_MO_record ti_MO ⟨by decide, by decide, by decide +kernel⟩ (Or.inl tl_LW_97)) rfl tv_MO_record tx_MO_record)
theorem cv_98 (l : Launch) : lw_cv l 98 (2, 0, mm_LS S_count) := Or.inr ⟨S_count, rfl, mm_cvt_i (c_count l) (mm_cb_i rfl rfl (by decide) (by decide) tc_TS_count ti_TS ⟨by decide, by decide, by decide +kernel⟩ (Or.inl tl_LW_98)) rfl tv_TS_count tx_TS_count⟩
theorem cv_101 (l : Launch) : lw_cv l 101 (2, 5, S_m_count) := Or.inl (mm_cvt_i (c_m_count l) (mm_cb_i rfl rfl (by decide) (by decide) tc_MO_count ti_MO ⟨by decide, by decide, by decide +kernel⟩ (Or.inl tl_LW_101)) rfl tv_MO_count tx_MO_count)
theorem lw_cvs (l : Launch) (n : Nat) (xs : Nat → Int32) : ∀ idx q, (G_LW n xs).2.2.2.2.1 idx = some q → lw_cv l idx q := mm_tb_e (t := T_LW) (P := lw_cv l) (List.forall_mem_cons.mpr ⟨cv_21 l, List.forall_mem_cons.mpr ⟨cv_25 l, List.forall_mem_cons.mpr ⟨cv_26 l, List.forall_mem_cons.mpr ⟨cv_30 l, List.forall_mem_cons.mpr ⟨cv_31 l, List.forall_mem_cons.mpr ⟨cv_35 l, List.forall_mem_cons.mpr ⟨cv_36 l, List.forall_mem_cons.mpr ⟨cv_40 l, List.forall_mem_cons.mpr ⟨cv_41 l, List.forall_mem_cons.mpr ⟨cv_44 l, List.forall_mem_cons.mpr ⟨cv_45 l, List.forall_mem_cons.mpr ⟨cv_48 l, List.forall_mem_cons.mpr ⟨cv_49 l, List.forall_mem_cons.mpr ⟨cv_52 l, List.forall_mem_cons.mpr ⟨cv_53 l, List.forall_mem_cons.mpr ⟨cv_56 l, List.forall_mem_cons.mpr ⟨cv_57 l, List.forall_mem_cons.mpr ⟨cv_60 l, List.forall_mem_cons.mpr ⟨cv_61 l, List.forall_mem_cons.mpr ⟨cv_64 l, List.forall_mem_cons.mpr ⟨cv_65 l, List.forall_mem_cons.mpr ⟨cv_68 l, List.forall_mem_cons.mpr ⟨cv_69 l, List.forall_mem_cons.mpr ⟨cv_72 l, List.forall_mem_cons.mpr ⟨cv_73 l, List.forall_mem_cons.mpr ⟨cv_77 l, List.forall_mem_cons.mpr ⟨cv_78 l, List.forall_mem_cons.mpr ⟨cv_81 l, List.forall_mem_cons.mpr ⟨cv_82 l, List.forall_mem_cons.mpr ⟨cv_85 l, List.forall_mem_cons.mpr ⟨cv_86 l, List.forall_mem_cons.mpr ⟨cv_89 l, List.forall_mem_cons.mpr ⟨cv_90 l, List.forall_mem_cons.mpr ⟨cv_93 l, List.forall_mem_cons.mpr ⟨cv_94 l, List.forall_mem_cons.mpr ⟨cv_97 l, List.forall_mem_cons.mpr ⟨cv_98 l, List.forall_mem_cons.mpr ⟨cv_101 l, fun _ h => absurd h List.not_mem_nil⟩⟩⟩⟩⟩⟩⟩⟩⟩⟩⟩⟩⟩⟩⟩⟩⟩⟩⟩⟩⟩⟩⟩⟩⟩⟩⟩⟩⟩⟩⟩⟩⟩⟩⟩⟩⟩⟩)
section LW
variable {p : Program} {l : Launch} {e : Env} {s : State} {m : MethodId} {args : Array Value} {below : List Frame} {meth : Method} {c : Code} {cells slots : Nat} {Q : State → Prop} {D : va_G} {A : Nat → Prop} {tC : Nat → ClassId} {ad : Nat → Nat}
theorem lw_ok {H0 : Heap} {idx : Nat} {q : Nat × Nat × mm_P} (h : lw_cv l idx q) (hx : p.tables.exec = Jvm.exec) (hb : c.code = code) (hml : c.maxLocals = 4) (hown : s.vm.findClass "TwoSlotsLaw" = some m.cls) (hts : ∀ w ∈ TB, w.before args s = true) (hK : va_K D CL (mm_tys tC) s) (hDa : mm_Da A ad LL.length) (hA : ∀ q, H0.size ≤ q → A q) (hNW : mm_NW NW s) (hcs : cells ≤ room_1.cells ∧ slots ≤ room_1.slots) : mm_cOk p l e room_1 s m args below meth c cells slots Q code D CL A H0 tC ad LL 4 (.invokevirtual idx) q.1 (mm_rcv LL q.2.1) q.2.2 := by
  obtain ⟨q1, q2, q3⟩ := q
  rcases h with h | ⟨S, hS, h⟩
  · obtain ⟨y', bytes', maxL', ret', rm', np, T, N, a1, a2, a3, a4, a5, a6⟩ := h
    dsimp only at a1 a2 a4 ⊢
    subst a2
    exact mm_cV hx hb hml hown hts tb_good a1 a3 a4 a5 a6 hK hDa hA nw_nest hNW hcs
  · obtain ⟨y', bytes', maxL', ret', rm', np, T, N, a1, a2, a3, a4, a5, a6⟩ := h
    dsimp only at hS a1 a2 a4 ⊢
    subst a2
    subst hS
    rw [LL_e] at hDa ⊢
    exact mm_cVL hx hb hml hown hts tb_good a1 a3 a4 a5 a6 hK hDa hA nw_nest hNW hcs (by decide) (by decide)
theorem lw_cell {H : Heap} {locs : List Loc} {ws : va_W} {pc b L k : Nat} {xs : Nat → Int32} {ls : Array Slot} {rest : List Value} (hL : L ≤ 2563) (hk3 : k ≤ 3) (hx : p.tables.exec = Jvm.exec) (hb : c.code = code) (hml : c.maxLocals = 4) (hown : s.vm.findClass "TwoSlotsLaw" = some m.cls) (hts : ∀ w ∈ TB, w.before args s = true) (hX : va_X b L xs s s.heap) (hbl : b < s.heap.size) (hbA : ¬ A b) (hA : ∀ q, s.heap.size ≤ q → A q) (hls : ls.size = 4) (hcat : (rest.map fun v => v.category).sum ≤ 8) (hcs : cells ≤ room_1.cells ∧ slots ≤ room_1.slots) (hdg : decode code pc = .ok (.invokestatic 9, 3)) (hP : va_P D CL ws H) (hS : va_S A s.heap H locs)
    (kk : ∀ (H1 : Heap) (locs1 : List Loc), va_P D CL ws H1 → va_S A s.heap H1 locs1 → W p l e room_1 s m args below meth c H1 locs1 cells slots Q (F0 m (pc + 3) ls (.int (cel L xs k) :: rest))) : W p l e room_1 s m args below meth c H locs cells slots Q (F0 m pc ls (.int (nI k) :: .ref b :: rest)) := by
  have hXH : va_X b L xs s H := hX.kept (hS.2.1 b hbl hbA)
  have hbH : b < H.size := Nat.lt_of_lt_of_le hbl hS.1
  have hsub : ∀ q, va_A [] H.size q → A q := by
    rintro q (⟨k, e, h⟩ | h)
    · cases k <;> cases h
    · exact hA q (Nat.le_trans hS.1 h)
  refine va_calli (va_runS (As := [.ref b, .int (nI k)]) (n := 2) (rest := rest) (Ts := TB) (own := "TwoSlotsLaw") ⟨hx, hb, hml, hown, hts⟩ (c_cell l b L xs k H.size hL hk3) ⟨callB_of 2 hts (tb_goodc tc_LW_cell) rfl rfl rfl (hts _ ti_LW) (hts _ tl_LW_9) (by decide +kernel) ⟨Nat.le_of_ble_eq_true rfl, Nat.le_of_ble_eq_true rfl⟩, hts _ ts_LW_cell⟩ ⟨ce_blind, fun U hU hW => ⟨rfl, by rw [hU], by rw [hU]; exact va_X.moved hW.alike hXH, hbH⟩⟩ rfl rfl hls rfl (lv_room hcat) hdg hcs) hS (fun q _ h => hsub q h) hsub (fun r u t H1 locs ht hvm hw hB hz1 hk1 hS => ?_)
  rw [hw]
  exact kk H1 locs (hP.kept (fun j q hj => hk1 q.1 (hP j q hj).lt (va_A0 (hP j q hj).lt))) hS
end LW
