/-! The law's loop. -/
def T_LW : List (Nat × Nat × Nat × mm_P) := [(21, 5, 0, mm_LS S_make), (25, 5, 5, S_m_make), (26, 2, 0, mm_LS S_pack), (30, 2, 5, S_m_pack), (31, 3, 0, mm_LS S_alter), (35, 3, 5, S_m_alter), (36, 1, 0, mm_LS S_offer), (40, 1, 5, S_m_offer), (41, 1, 0, mm_LS S_block), (44, 1, 5, S_m_block), (45, 1, 0, mm_LS S_finish), (48, 1, 5, S_m_finish), (49, 1, 0, mm_LS S_boot), (52, 1, 5, S_m_boot), (53, 1, 0, mm_LS S_confirm), (56, 1, 5, S_m_confirm), (57, 2, 0, mm_LS S_tick), (60, 2, 5, S_m_tick), (61, 2, 0, mm_LS S_revoke), (64, 2, 5, S_m_revoke), (65, 3, 0, mm_LS S_cut), (68, 3, 5, S_m_cut), (69, 1, 0, mm_LS S_start), (72, 1, 5, S_m_start), (73, 4, 0, mm_LS S_rot), (77, 4, 5, S_m_rot), (78, 3, 0, mm_LS S_octet), (81, 3, 5, S_m_octet), (82, 1, 0, mm_LS S_running), (85, 1, 5, S_m_running), (86, 1, 0, mm_LS S_watchdog), (89, 1, 5, S_m_watchdog), (90, 3, 0, mm_LS S_slot), (93, 3, 5, S_m_slot), (94, 2, 0, mm_LS S_record), (97, 2, 5, S_m_record), (98, 2, 0, mm_LS S_count), (101, 2, 5, S_m_count)]
def G_LW (n : Nat) (xs : Nat → Int32) : mm_G := (fun _ => none, fun _ => none, fun _ => none, fun _ => none, mm_tb T_LW, some (n, xs))
def ILW (n : Nat) : Nat → Nat → mm_V → mm_S → Prop := fun k pc lv x => pc = 50 ∧ ∃ i : Nat, k = n + 3 - i ∧ i ≤ n + 3 ∧ lv = [(0, .ref 1000), (1, .ref 0), (2, .ref 11), (3, .int (nI i))] ∧ R x x
def KLW : mm_K := fun r _ => r = some (.int 1)
abbrev CLW (n k : Nat) : Nat → mm_V → List Value → mm_S → Prop := fun pc lv st x'' => st = [] ∧ ∃ (k' : Nat) (lv' : mm_V), k' < k ∧ mm_all lv lv' ∧ ILW n k' pc lv' x''
theorem lw_in (c : Nat) {n i : Nat} (h : i + c < n) (hn : n ≤ 2563) : vp_in (nI i + nI c) n := by
  rw [nI_add]
  exact nI_in h (by omega)
theorem lw_in0 {n i : Nat} (h : i < n) (hn : n ≤ 2563) : vp_in (nI i) n := nI_in h (by omega)
theorem lw_i5 (i : Nat) : ([(0, .ref 1000), (1, .ref 0), (2, .ref 11), (3, .int (nI i))] : mm_V) = [(0, .ref 1000), (1, .ref 0), (2, .ref 11), (3, .int (nI i))] := rfl
theorem lw_gt {n i : Nat} (hn : n ≤ 2563) (hi : i ≤ n + 3) (h : ¬ Int32.ofNat n - 5 < nI i) : i + 5 ≤ n := by
  have h1 : (nI n - nI 5).toInt = (n : Int) - 5 := pk_sub_toInt (by omega) (by omega)
  have h2 : (nI i).toInt = (i : Int) := nI_toInt (by omega)
  have h3 : ¬ nI n - nI 5 < nI i := h
  rw [Int32.lt_iff_toInt_lt, h1, h2] at h3
  omega
set_option maxHeartbeats 4000000 in
set_option maxRecDepth 10000 in
theorem lw_603 {n i k f : Nat} {xs : Nat → Int32} {x : mm_S} (hn : n ≤ 2563) (hi : i + 5 ≤ n) (hk : k = n + 3 - i) (h : R x x) : mm_vc (G_LW n xs) LL 4 (some .boolean) code [50] (CLW n k) KLW (f + 2) 603 [(0, .ref 1000), (1, .ref 0), (2, .ref 11), (3, .int (nI i))] [] x := by
  refine v_iinc d_LW_law_603 (by decide) rfl ki_5 ?_
  refine a_go (by decide) (v_goto (t := 50) d_LW_law_606 (by decide) ?_)
  refine a_cut (by decide) ⟨rfl, n + 3 - (i + 5), [(0, .ref 1000), (1, .ref 0), (2, .ref 11), (3, .int (nI (i + 5)))], by omega, mm_all_c rfl (mm_all_c rfl (mm_all_c rfl (mm_all_c ?_ mm_all_n))), rfl, i + 5, rfl, by omega, rfl, h⟩
  show some (Value.int (nI i + nI 5)) = some (Value.int (nI (i + 5)))
  rw [nI_add]
set_option maxHeartbeats 4000000 in
set_option maxRecDepth 10000 in
theorem lw_c_make {n i k f : Nat} {xs : Nat → Int32} {x : mm_S} (hn : n ≤ 2563) (hi : i + 5 ≤ n) (hk : k = n + 3 - i) (h : R x x) : mm_vc (G_LW n xs) LL 4 (some .boolean) code [50] (CLW n k) KLW (f + 60) 156 [(0, .ref 1000), (1, .ref 0), (2, .ref 11), (3, .int (nI i))] [] x := by
  obtain ⟨a, x1, x2, h2, p1, p2⟩ := pp_make (xs (Int32.toNatClampNeg (nI i + 1))) (xs (Int32.toNatClampNeg (nI i + 2))) (xs (Int32.toNatClampNeg (nI i + 3))) (xs (Int32.toNatClampNeg (nI i + 4))) h
  refine v_aload_n d_LW_law_156 rfl ?_
  refine a_go (by decide) (v_aload_n d_LW_law_157 rfl ?_)
  refine a_go (by decide) (v_iload_n d_LW_law_158 rfl ?_)
  refine a_go (by decide) (v_iconst d_LW_law_159 ki_1 ?_)
  refine a_go (by decide) (v_iadd d_LW_law_160 ?_)
  refine a_go (by decide) (v_sld d_LW_law_161 rfl (lw_in 1 (by omega) hn) ?_)
  refine a_go (by decide) (v_aload_n d_LW_law_162 rfl ?_)
  refine a_go (by decide) (v_iload_n d_LW_law_163 rfl ?_)
  refine a_go (by decide) (v_iconst d_LW_law_164 ki_2 ?_)
  refine a_go (by decide) (v_iadd d_LW_law_165 ?_)
  refine a_go (by decide) (v_sld d_LW_law_166 rfl (lw_in 2 (by omega) hn) ?_)
  refine a_go (by decide) (v_aload_n d_LW_law_167 rfl ?_)
  refine a_go (by decide) (v_iload_n d_LW_law_168 rfl ?_)
  refine a_go (by decide) (v_iconst d_LW_law_169 ki_3 ?_)
  refine a_go (by decide) (v_iadd d_LW_law_170 ?_)
  refine a_go (by decide) (v_sld d_LW_law_171 rfl (lw_in 3 (by omega) hn) ?_)
  refine a_go (by decide) (v_aload_n d_LW_law_172 rfl ?_)
  refine a_go (by decide) (v_iload_n d_LW_law_173 rfl ?_)
  refine a_go (by decide) (v_iconst d_LW_law_174 ki_4 ?_)
  refine a_go (by decide) (v_iadd d_LW_law_175 ?_)
  refine a_go (by decide) (v_sld d_LW_law_176 rfl (lw_in 4 (by omega) hn) ?_)
  refine a_go (by decide) (v_callV d_LW_law_177 rfl (mm_spl 5 rfl) rfl (Nat.le_of_ble_eq_true rfl) rfl (p1 _ ?_))
  refine a_go (by decide) (v_aload_n d_LW_law_180 rfl ?_)
  refine a_go (by decide) (v_aload_n d_LW_law_181 rfl ?_)
  refine a_go (by decide) (v_iload_n d_LW_law_182 rfl ?_)
  refine a_go (by decide) (v_iconst d_LW_law_183 ki_1 ?_)
  refine a_go (by decide) (v_iadd d_LW_law_184 ?_)
  refine a_go (by decide) (v_sld d_LW_law_185 rfl (lw_in 1 (by omega) hn) ?_)
  refine a_go (by decide) (v_aload_n d_LW_law_186 rfl ?_)
  refine a_go (by decide) (v_iload_n d_LW_law_187 rfl ?_)
  refine a_go (by decide) (v_iconst d_LW_law_188 ki_2 ?_)
  refine a_go (by decide) (v_iadd d_LW_law_189 ?_)
  refine a_go (by decide) (v_sld d_LW_law_190 rfl (lw_in 2 (by omega) hn) ?_)
  refine a_go (by decide) (v_aload_n d_LW_law_191 rfl ?_)
  refine a_go (by decide) (v_iload_n d_LW_law_192 rfl ?_)
  refine a_go (by decide) (v_iconst d_LW_law_193 ki_3 ?_)
  refine a_go (by decide) (v_iadd d_LW_law_194 ?_)
  refine a_go (by decide) (v_sld d_LW_law_195 rfl (lw_in 3 (by omega) hn) ?_)
  refine a_go (by decide) (v_aload_n d_LW_law_196 rfl ?_)
  refine a_go (by decide) (v_iload_n d_LW_law_197 rfl ?_)
  refine a_go (by decide) (v_iconst d_LW_law_198 ki_4 ?_)
  refine a_go (by decide) (v_iadd d_LW_law_199 ?_)
  refine a_go (by decide) (v_sld d_LW_law_200 rfl (lw_in 4 (by omega) hn) ?_)
  refine a_go (by decide) (v_callV d_LW_law_201 rfl (mm_spl 5 rfl) rfl (Nat.le_of_ble_eq_true rfl) rfl (p2 _ ?_))
  exact a_go (by decide) (v_icmp_eq (t := 603) d_LW_law_204 (by decide) (fun _ => a_go (by decide) (lw_603 hn hi hk h2)) (fun c => absurd rfl c))
set_option maxHeartbeats 4000000 in
set_option maxRecDepth 10000 in
theorem lw_c_pack {n i k f : Nat} {xs : Nat → Int32} {x : mm_S} (hn : n ≤ 2563) (hi : i + 5 ≤ n) (hk : k = n + 3 - i) (h : R x x) : mm_vc (G_LW n xs) LL 4 (some .boolean) code [50] (CLW n k) KLW (f + 60) 209 [(0, .ref 1000), (1, .ref 0), (2, .ref 11), (3, .int (nI i))] [] x := by
  obtain ⟨a, x1, x2, h2, p1, p2⟩ := pp_pack (xs (Int32.toNatClampNeg (nI i + 1))) h
  refine v_aload_n d_LW_law_209 rfl ?_
  refine a_go (by decide) (v_aload_n d_LW_law_210 rfl ?_)
  refine a_go (by decide) (v_iload_n d_LW_law_211 rfl ?_)
  refine a_go (by decide) (v_iconst d_LW_law_212 ki_1 ?_)
  refine a_go (by decide) (v_iadd d_LW_law_213 ?_)
  refine a_go (by decide) (v_sld d_LW_law_214 rfl (lw_in 1 (by omega) hn) ?_)
  refine a_go (by decide) (v_callV d_LW_law_215 rfl (mm_spl 2 rfl) rfl (Nat.le_of_ble_eq_true rfl) rfl (p1 _ ?_))
  refine a_go (by decide) (v_aload_n d_LW_law_218 rfl ?_)
  refine a_go (by decide) (v_aload_n d_LW_law_219 rfl ?_)
  refine a_go (by decide) (v_iload_n d_LW_law_220 rfl ?_)
  refine a_go (by decide) (v_iconst d_LW_law_221 ki_1 ?_)
  refine a_go (by decide) (v_iadd d_LW_law_222 ?_)
  refine a_go (by decide) (v_sld d_LW_law_223 rfl (lw_in 1 (by omega) hn) ?_)
  refine a_go (by decide) (v_callV d_LW_law_224 rfl (mm_spl 2 rfl) rfl (Nat.le_of_ble_eq_true rfl) rfl (p2 _ ?_))
  exact a_go (by decide) (v_icmp_eq (t := 603) d_LW_law_227 (by decide) (fun _ => a_go (by decide) (lw_603 hn hi hk h2)) (fun c => absurd rfl c))
set_option maxHeartbeats 4000000 in
set_option maxRecDepth 10000 in
theorem lw_c_alter {n i k f : Nat} {xs : Nat → Int32} {x : mm_S} (hn : n ≤ 2563) (hi : i + 5 ≤ n) (hk : k = n + 3 - i) (h : R x x) : mm_vc (G_LW n xs) LL 4 (some .boolean) code [50] (CLW n k) KLW (f + 60) 232 [(0, .ref 1000), (1, .ref 0), (2, .ref 11), (3, .int (nI i))] [] x := by
  obtain ⟨a, x1, x2, h2, p1, p2⟩ := pp_alter (xs (Int32.toNatClampNeg (nI i + 1))) (xs (Int32.toNatClampNeg (nI i + 2))) h
  refine v_aload_n d_LW_law_232 rfl ?_
  refine a_go (by decide) (v_aload_n d_LW_law_233 rfl ?_)
  refine a_go (by decide) (v_iload_n d_LW_law_234 rfl ?_)
  refine a_go (by decide) (v_iconst d_LW_law_235 ki_1 ?_)
  refine a_go (by decide) (v_iadd d_LW_law_236 ?_)
  refine a_go (by decide) (v_sld d_LW_law_237 rfl (lw_in 1 (by omega) hn) ?_)
  refine a_go (by decide) (v_aload_n d_LW_law_238 rfl ?_)
  refine a_go (by decide) (v_iload_n d_LW_law_239 rfl ?_)
  refine a_go (by decide) (v_iconst d_LW_law_240 ki_2 ?_)
  refine a_go (by decide) (v_iadd d_LW_law_241 ?_)
  refine a_go (by decide) (v_sld d_LW_law_242 rfl (lw_in 2 (by omega) hn) ?_)
  refine a_go (by decide) (v_callV d_LW_law_243 rfl (mm_spl 3 rfl) rfl (Nat.le_of_ble_eq_true rfl) rfl (p1 _ ?_))
  refine a_go (by decide) (v_aload_n d_LW_law_246 rfl ?_)
  refine a_go (by decide) (v_aload_n d_LW_law_247 rfl ?_)
  refine a_go (by decide) (v_iload_n d_LW_law_248 rfl ?_)
  refine a_go (by decide) (v_iconst d_LW_law_249 ki_1 ?_)
  refine a_go (by decide) (v_iadd d_LW_law_250 ?_)
  refine a_go (by decide) (v_sld d_LW_law_251 rfl (lw_in 1 (by omega) hn) ?_)
  refine a_go (by decide) (v_aload_n d_LW_law_252 rfl ?_)
  refine a_go (by decide) (v_iload_n d_LW_law_253 rfl ?_)
  refine a_go (by decide) (v_iconst d_LW_law_254 ki_2 ?_)
  refine a_go (by decide) (v_iadd d_LW_law_255 ?_)
  refine a_go (by decide) (v_sld d_LW_law_256 rfl (lw_in 2 (by omega) hn) ?_)
  refine a_go (by decide) (v_callV d_LW_law_257 rfl (mm_spl 3 rfl) rfl (Nat.le_of_ble_eq_true rfl) rfl (p2 _ ?_))
  exact a_go (by decide) (v_icmp_eq (t := 603) d_LW_law_260 (by decide) (fun _ => a_go (by decide) (lw_603 hn hi hk h2)) (fun c => absurd rfl c))
set_option maxHeartbeats 4000000 in
set_option maxRecDepth 10000 in
theorem lw_c_offer {n i k f : Nat} {xs : Nat → Int32} {x : mm_S} (hn : n ≤ 2563) (hi : i + 5 ≤ n) (hk : k = n + 3 - i) (h : R x x) : mm_vc (G_LW n xs) LL 4 (some .boolean) code [50] (CLW n k) KLW (f + 60) 265 [(0, .ref 1000), (1, .ref 0), (2, .ref 11), (3, .int (nI i))] [] x := by
  obtain ⟨a, x1, x2, h2, p1, p2⟩ := pp_offer h
  refine v_aload_n d_LW_law_265 rfl ?_
  refine a_go (by decide) (v_callV d_LW_law_266 rfl (mm_spl 1 rfl) rfl (Nat.le_of_ble_eq_true rfl) rfl (p1 _ ?_))
  refine a_go (by decide) (v_aload_n d_LW_law_269 rfl ?_)
  refine a_go (by decide) (v_callV d_LW_law_270 rfl (mm_spl 1 rfl) rfl (Nat.le_of_ble_eq_true rfl) rfl (p2 _ ?_))
  exact a_go (by decide) (v_icmp_eq (t := 603) d_LW_law_273 (by decide) (fun _ => a_go (by decide) (lw_603 hn hi hk h2)) (fun c => absurd rfl c))
set_option maxHeartbeats 4000000 in
set_option maxRecDepth 10000 in
theorem lw_c_block {n i k f : Nat} {xs : Nat → Int32} {x : mm_S} (hn : n ≤ 2563) (hi : i + 5 ≤ n) (hk : k = n + 3 - i) (h : R x x) : mm_vc (G_LW n xs) LL 4 (some .boolean) code [50] (CLW n k) KLW (f + 60) 278 [(0, .ref 1000), (1, .ref 0), (2, .ref 11), (3, .int (nI i))] [] x := by
  obtain ⟨a, x1, x2, h2, p1, p2⟩ := pp_block h
  refine v_aload_n d_LW_law_278 rfl ?_
  refine a_go (by decide) (v_callV d_LW_law_279 rfl (mm_spl 1 rfl) rfl (Nat.le_of_ble_eq_true rfl) rfl (p1 _ ?_))
  refine a_go (by decide) (v_aload_n d_LW_law_282 rfl ?_)
  refine a_go (by decide) (v_callV d_LW_law_283 rfl (mm_spl 1 rfl) rfl (Nat.le_of_ble_eq_true rfl) rfl (p2 _ ?_))
  exact a_go (by decide) (v_icmp_eq (t := 603) d_LW_law_286 (by decide) (fun _ => a_go (by decide) (lw_603 hn hi hk h2)) (fun c => absurd rfl c))
set_option maxHeartbeats 4000000 in
set_option maxRecDepth 10000 in
theorem lw_c_finish {n i k f : Nat} {xs : Nat → Int32} {x : mm_S} (hn : n ≤ 2563) (hi : i + 5 ≤ n) (hk : k = n + 3 - i) (h : R x x) : mm_vc (G_LW n xs) LL 4 (some .boolean) code [50] (CLW n k) KLW (f + 60) 291 [(0, .ref 1000), (1, .ref 0), (2, .ref 11), (3, .int (nI i))] [] x := by
  obtain ⟨a, x1, x2, h2, p1, p2⟩ := pp_finish h
  refine v_aload_n d_LW_law_291 rfl ?_
  refine a_go (by decide) (v_callV d_LW_law_292 rfl (mm_spl 1 rfl) rfl (Nat.le_of_ble_eq_true rfl) rfl (p1 _ ?_))
  refine a_go (by decide) (v_aload_n d_LW_law_295 rfl ?_)
  refine a_go (by decide) (v_callV d_LW_law_296 rfl (mm_spl 1 rfl) rfl (Nat.le_of_ble_eq_true rfl) rfl (p2 _ ?_))
  exact a_go (by decide) (v_icmp_eq (t := 603) d_LW_law_299 (by decide) (fun _ => a_go (by decide) (lw_603 hn hi hk h2)) (fun c => absurd rfl c))
set_option maxHeartbeats 4000000 in
set_option maxRecDepth 10000 in
theorem lw_c_boot {n i k f : Nat} {xs : Nat → Int32} {x : mm_S} (hn : n ≤ 2563) (hi : i + 5 ≤ n) (hk : k = n + 3 - i) (h : R x x) : mm_vc (G_LW n xs) LL 4 (some .boolean) code [50] (CLW n k) KLW (f + 60) 304 [(0, .ref 1000), (1, .ref 0), (2, .ref 11), (3, .int (nI i))] [] x := by
  obtain ⟨a, x1, x2, h2, p1, p2⟩ := pp_boot h
  refine v_aload_n d_LW_law_304 rfl ?_
  refine a_go (by decide) (v_callV d_LW_law_305 rfl (mm_spl 1 rfl) rfl (Nat.le_of_ble_eq_true rfl) rfl (p1 _ ?_))
  refine a_go (by decide) (v_aload_n d_LW_law_308 rfl ?_)
  refine a_go (by decide) (v_callV d_LW_law_309 rfl (mm_spl 1 rfl) rfl (Nat.le_of_ble_eq_true rfl) rfl (p2 _ ?_))
  exact a_go (by decide) (v_icmp_eq (t := 603) d_LW_law_312 (by decide) (fun _ => a_go (by decide) (lw_603 hn hi hk h2)) (fun c => absurd rfl c))
set_option maxHeartbeats 4000000 in
set_option maxRecDepth 10000 in
theorem lw_c_confirm {n i k f : Nat} {xs : Nat → Int32} {x : mm_S} (hn : n ≤ 2563) (hi : i + 5 ≤ n) (hk : k = n + 3 - i) (h : R x x) : mm_vc (G_LW n xs) LL 4 (some .boolean) code [50] (CLW n k) KLW (f + 60) 317 [(0, .ref 1000), (1, .ref 0), (2, .ref 11), (3, .int (nI i))] [] x := by
  obtain ⟨a, x1, x2, h2, p1, p2⟩ := pp_confirm h
  refine v_aload_n d_LW_law_317 rfl ?_
  refine a_go (by decide) (v_callV d_LW_law_318 rfl (mm_spl 1 rfl) rfl (Nat.le_of_ble_eq_true rfl) rfl (p1 _ ?_))
  refine a_go (by decide) (v_aload_n d_LW_law_321 rfl ?_)
  refine a_go (by decide) (v_callV d_LW_law_322 rfl (mm_spl 1 rfl) rfl (Nat.le_of_ble_eq_true rfl) rfl (p2 _ ?_))
  exact a_go (by decide) (v_icmp_eq (t := 603) d_LW_law_325 (by decide) (fun _ => a_go (by decide) (lw_603 hn hi hk h2)) (fun c => absurd rfl c))
set_option maxHeartbeats 4000000 in
set_option maxRecDepth 10000 in
theorem lw_c_tick {n i k f : Nat} {xs : Nat → Int32} {x : mm_S} (hn : n ≤ 2563) (hi : i + 5 ≤ n) (hk : k = n + 3 - i) (h : R x x) : mm_vc (G_LW n xs) LL 4 (some .boolean) code [50] (CLW n k) KLW (f + 60) 330 [(0, .ref 1000), (1, .ref 0), (2, .ref 11), (3, .int (nI i))] [] x := by
  obtain ⟨a, x1, x2, h2, p1, p2⟩ := pp_tick (xs (Int32.toNatClampNeg (nI i + 1))) h
  refine v_aload_n d_LW_law_330 rfl ?_
  refine a_go (by decide) (v_aload_n d_LW_law_331 rfl ?_)
  refine a_go (by decide) (v_iload_n d_LW_law_332 rfl ?_)
  refine a_go (by decide) (v_iconst d_LW_law_333 ki_1 ?_)
  refine a_go (by decide) (v_iadd d_LW_law_334 ?_)
  refine a_go (by decide) (v_sld d_LW_law_335 rfl (lw_in 1 (by omega) hn) ?_)
  refine a_go (by decide) (v_callV d_LW_law_336 rfl (mm_spl 2 rfl) rfl (Nat.le_of_ble_eq_true rfl) rfl (p1 _ ?_))
  refine a_go (by decide) (v_aload_n d_LW_law_339 rfl ?_)
  refine a_go (by decide) (v_aload_n d_LW_law_340 rfl ?_)
  refine a_go (by decide) (v_iload_n d_LW_law_341 rfl ?_)
  refine a_go (by decide) (v_iconst d_LW_law_342 ki_1 ?_)
  refine a_go (by decide) (v_iadd d_LW_law_343 ?_)
  refine a_go (by decide) (v_sld d_LW_law_344 rfl (lw_in 1 (by omega) hn) ?_)
  refine a_go (by decide) (v_callV d_LW_law_345 rfl (mm_spl 2 rfl) rfl (Nat.le_of_ble_eq_true rfl) rfl (p2 _ ?_))
  exact a_go (by decide) (v_icmp_eq (t := 603) d_LW_law_348 (by decide) (fun _ => a_go (by decide) (lw_603 hn hi hk h2)) (fun c => absurd rfl c))
set_option maxHeartbeats 4000000 in
set_option maxRecDepth 10000 in
theorem lw_c_revoke {n i k f : Nat} {xs : Nat → Int32} {x : mm_S} (hn : n ≤ 2563) (hi : i + 5 ≤ n) (hk : k = n + 3 - i) (h : R x x) : mm_vc (G_LW n xs) LL 4 (some .boolean) code [50] (CLW n k) KLW (f + 60) 353 [(0, .ref 1000), (1, .ref 0), (2, .ref 11), (3, .int (nI i))] [] x := by
  obtain ⟨a, x1, x2, h2, p1, p2⟩ := pp_revoke (xs (Int32.toNatClampNeg (nI i + 1))) h
  refine v_aload_n d_LW_law_353 rfl ?_
  refine a_go (by decide) (v_aload_n d_LW_law_354 rfl ?_)
  refine a_go (by decide) (v_iload_n d_LW_law_355 rfl ?_)
  refine a_go (by decide) (v_iconst d_LW_law_356 ki_1 ?_)
  refine a_go (by decide) (v_iadd d_LW_law_357 ?_)
  refine a_go (by decide) (v_sld d_LW_law_358 rfl (lw_in 1 (by omega) hn) ?_)
  refine a_go (by decide) (v_callV d_LW_law_359 rfl (mm_spl 2 rfl) rfl (Nat.le_of_ble_eq_true rfl) rfl (p1 _ ?_))
  refine a_go (by decide) (v_aload_n d_LW_law_362 rfl ?_)
  refine a_go (by decide) (v_aload_n d_LW_law_363 rfl ?_)
  refine a_go (by decide) (v_iload_n d_LW_law_364 rfl ?_)
  refine a_go (by decide) (v_iconst d_LW_law_365 ki_1 ?_)
  refine a_go (by decide) (v_iadd d_LW_law_366 ?_)
  refine a_go (by decide) (v_sld d_LW_law_367 rfl (lw_in 1 (by omega) hn) ?_)
  refine a_go (by decide) (v_callV d_LW_law_368 rfl (mm_spl 2 rfl) rfl (Nat.le_of_ble_eq_true rfl) rfl (p2 _ ?_))
  exact a_go (by decide) (v_icmp_eq (t := 603) d_LW_law_371 (by decide) (fun _ => a_go (by decide) (lw_603 hn hi hk h2)) (fun c => absurd rfl c))
set_option maxHeartbeats 4000000 in
set_option maxRecDepth 10000 in
theorem lw_c_cut {n i k f : Nat} {xs : Nat → Int32} {x : mm_S} (hn : n ≤ 2563) (hi : i + 5 ≤ n) (hk : k = n + 3 - i) (h : R x x) : mm_vc (G_LW n xs) LL 4 (some .boolean) code [50] (CLW n k) KLW (f + 60) 376 [(0, .ref 1000), (1, .ref 0), (2, .ref 11), (3, .int (nI i))] [] x := by
  obtain ⟨a, x1, x2, h2, p1, p2⟩ := pp_cut (xs (Int32.toNatClampNeg (nI i + 1))) (xs (Int32.toNatClampNeg (nI i + 2))) h
  refine v_aload_n d_LW_law_376 rfl ?_
  refine a_go (by decide) (v_aload_n d_LW_law_377 rfl ?_)
  refine a_go (by decide) (v_iload_n d_LW_law_378 rfl ?_)
  refine a_go (by decide) (v_iconst d_LW_law_379 ki_1 ?_)
  refine a_go (by decide) (v_iadd d_LW_law_380 ?_)
  refine a_go (by decide) (v_sld d_LW_law_381 rfl (lw_in 1 (by omega) hn) ?_)
  refine a_go (by decide) (v_aload_n d_LW_law_382 rfl ?_)
  refine a_go (by decide) (v_iload_n d_LW_law_383 rfl ?_)
  refine a_go (by decide) (v_iconst d_LW_law_384 ki_2 ?_)
  refine a_go (by decide) (v_iadd d_LW_law_385 ?_)
  refine a_go (by decide) (v_sld d_LW_law_386 rfl (lw_in 2 (by omega) hn) ?_)
  refine a_go (by decide) (v_callV d_LW_law_387 rfl (mm_spl 3 rfl) rfl (Nat.le_of_ble_eq_true rfl) rfl (p1 _ ?_))
  refine a_go (by decide) (v_aload_n d_LW_law_390 rfl ?_)
  refine a_go (by decide) (v_aload_n d_LW_law_391 rfl ?_)
  refine a_go (by decide) (v_iload_n d_LW_law_392 rfl ?_)
  refine a_go (by decide) (v_iconst d_LW_law_393 ki_1 ?_)
  refine a_go (by decide) (v_iadd d_LW_law_394 ?_)
  refine a_go (by decide) (v_sld d_LW_law_395 rfl (lw_in 1 (by omega) hn) ?_)
  refine a_go (by decide) (v_aload_n d_LW_law_396 rfl ?_)
  refine a_go (by decide) (v_iload_n d_LW_law_397 rfl ?_)
  refine a_go (by decide) (v_iconst d_LW_law_398 ki_2 ?_)
  refine a_go (by decide) (v_iadd d_LW_law_399 ?_)
  refine a_go (by decide) (v_sld d_LW_law_400 rfl (lw_in 2 (by omega) hn) ?_)
  refine a_go (by decide) (v_callV d_LW_law_401 rfl (mm_spl 3 rfl) rfl (Nat.le_of_ble_eq_true rfl) rfl (p2 _ ?_))
  exact a_go (by decide) (v_icmp_eq (t := 603) d_LW_law_404 (by decide) (fun _ => a_go (by decide) (lw_603 hn hi hk h2)) (fun c => absurd rfl c))
set_option maxHeartbeats 4000000 in
set_option maxRecDepth 10000 in
theorem lw_c_start {n i k f : Nat} {xs : Nat → Int32} {x : mm_S} (hn : n ≤ 2563) (hi : i + 5 ≤ n) (hk : k = n + 3 - i) (h : R x x) : mm_vc (G_LW n xs) LL 4 (some .boolean) code [50] (CLW n k) KLW (f + 60) 409 [(0, .ref 1000), (1, .ref 0), (2, .ref 11), (3, .int (nI i))] [] x := by
  obtain ⟨a, x1, x2, h2, p1, p2⟩ := pp_start h
  refine v_aload_n d_LW_law_409 rfl ?_
  refine a_go (by decide) (v_callV d_LW_law_410 rfl (mm_spl 1 rfl) rfl (Nat.le_of_ble_eq_true rfl) rfl (p1 _ ?_))
  refine a_go (by decide) (v_aload_n d_LW_law_413 rfl ?_)
  refine a_go (by decide) (v_callV d_LW_law_414 rfl (mm_spl 1 rfl) rfl (Nat.le_of_ble_eq_true rfl) rfl (p2 _ ?_))
  exact a_go (by decide) (v_icmp_eq (t := 603) d_LW_law_417 (by decide) (fun _ => a_go (by decide) (lw_603 hn hi hk h2)) (fun c => absurd rfl c))
set_option maxHeartbeats 4000000 in
set_option maxRecDepth 10000 in
theorem lw_c_rot {n i k f : Nat} {xs : Nat → Int32} {x : mm_S} (hn : n ≤ 2563) (hi : i + 5 ≤ n) (hk : k = n + 3 - i) (h : R x x) : mm_vc (G_LW n xs) LL 4 (some .boolean) code [50] (CLW n k) KLW (f + 60) 422 [(0, .ref 1000), (1, .ref 0), (2, .ref 11), (3, .int (nI i))] [] x := by
  obtain ⟨a, x1, x2, h2, p1, p2⟩ := pp_rot (xs (Int32.toNatClampNeg (nI i + 1))) (xs (Int32.toNatClampNeg (nI i + 2))) (xs (Int32.toNatClampNeg (nI i + 3))) h
  refine v_aload_n d_LW_law_422 rfl ?_
  refine a_go (by decide) (v_aload_n d_LW_law_423 rfl ?_)
  refine a_go (by decide) (v_iload_n d_LW_law_424 rfl ?_)
  refine a_go (by decide) (v_iconst d_LW_law_425 ki_1 ?_)
  refine a_go (by decide) (v_iadd d_LW_law_426 ?_)
  refine a_go (by decide) (v_sld d_LW_law_427 rfl (lw_in 1 (by omega) hn) ?_)
  refine a_go (by decide) (v_aload_n d_LW_law_428 rfl ?_)
  refine a_go (by decide) (v_iload_n d_LW_law_429 rfl ?_)
  refine a_go (by decide) (v_iconst d_LW_law_430 ki_2 ?_)
  refine a_go (by decide) (v_iadd d_LW_law_431 ?_)
  refine a_go (by decide) (v_sld d_LW_law_432 rfl (lw_in 2 (by omega) hn) ?_)
  refine a_go (by decide) (v_aload_n d_LW_law_433 rfl ?_)
  refine a_go (by decide) (v_iload_n d_LW_law_434 rfl ?_)
  refine a_go (by decide) (v_iconst d_LW_law_435 ki_3 ?_)
  refine a_go (by decide) (v_iadd d_LW_law_436 ?_)
  refine a_go (by decide) (v_sld d_LW_law_437 rfl (lw_in 3 (by omega) hn) ?_)
  refine a_go (by decide) (v_callV d_LW_law_438 rfl (mm_spl 4 rfl) rfl (Nat.le_of_ble_eq_true rfl) rfl (p1 _ ?_))
  refine a_go (by decide) (v_aload_n d_LW_law_441 rfl ?_)
  refine a_go (by decide) (v_aload_n d_LW_law_442 rfl ?_)
  refine a_go (by decide) (v_iload_n d_LW_law_443 rfl ?_)
  refine a_go (by decide) (v_iconst d_LW_law_444 ki_1 ?_)
  refine a_go (by decide) (v_iadd d_LW_law_445 ?_)
  refine a_go (by decide) (v_sld d_LW_law_446 rfl (lw_in 1 (by omega) hn) ?_)
  refine a_go (by decide) (v_aload_n d_LW_law_447 rfl ?_)
  refine a_go (by decide) (v_iload_n d_LW_law_448 rfl ?_)
  refine a_go (by decide) (v_iconst d_LW_law_449 ki_2 ?_)
  refine a_go (by decide) (v_iadd d_LW_law_450 ?_)
  refine a_go (by decide) (v_sld d_LW_law_451 rfl (lw_in 2 (by omega) hn) ?_)
  refine a_go (by decide) (v_aload_n d_LW_law_452 rfl ?_)
  refine a_go (by decide) (v_iload_n d_LW_law_453 rfl ?_)
  refine a_go (by decide) (v_iconst d_LW_law_454 ki_3 ?_)
  refine a_go (by decide) (v_iadd d_LW_law_455 ?_)
  refine a_go (by decide) (v_sld d_LW_law_456 rfl (lw_in 3 (by omega) hn) ?_)
  refine a_go (by decide) (v_callV d_LW_law_457 rfl (mm_spl 4 rfl) rfl (Nat.le_of_ble_eq_true rfl) rfl (p2 _ ?_))
  exact a_go (by decide) (v_icmp_eq (t := 603) d_LW_law_460 (by decide) (fun _ => a_go (by decide) (lw_603 hn hi hk h2)) (fun c => absurd rfl c))
set_option maxHeartbeats 4000000 in
set_option maxRecDepth 10000 in
theorem lw_c_octet {n i k f : Nat} {xs : Nat → Int32} {x : mm_S} (hn : n ≤ 2563) (hi : i + 5 ≤ n) (hk : k = n + 3 - i) (h : R x x) : mm_vc (G_LW n xs) LL 4 (some .boolean) code [50] (CLW n k) KLW (f + 60) 465 [(0, .ref 1000), (1, .ref 0), (2, .ref 11), (3, .int (nI i))] [] x := by
  obtain ⟨a, x1, x2, h2, p1, p2⟩ := pp_octet (xs (Int32.toNatClampNeg (nI i + 1))) (xs (Int32.toNatClampNeg (nI i + 2))) h
  refine v_aload_n d_LW_law_465 rfl ?_
  refine a_go (by decide) (v_aload_n d_LW_law_466 rfl ?_)
  refine a_go (by decide) (v_iload_n d_LW_law_467 rfl ?_)
  refine a_go (by decide) (v_iconst d_LW_law_468 ki_1 ?_)
  refine a_go (by decide) (v_iadd d_LW_law_469 ?_)
  refine a_go (by decide) (v_sld d_LW_law_470 rfl (lw_in 1 (by omega) hn) ?_)
  refine a_go (by decide) (v_aload_n d_LW_law_471 rfl ?_)
  refine a_go (by decide) (v_iload_n d_LW_law_472 rfl ?_)
  refine a_go (by decide) (v_iconst d_LW_law_473 ki_2 ?_)
  refine a_go (by decide) (v_iadd d_LW_law_474 ?_)
  refine a_go (by decide) (v_sld d_LW_law_475 rfl (lw_in 2 (by omega) hn) ?_)
  refine a_go (by decide) (v_callV d_LW_law_476 rfl (mm_spl 3 rfl) rfl (Nat.le_of_ble_eq_true rfl) rfl (p1 _ ?_))
  refine a_go (by decide) (v_aload_n d_LW_law_479 rfl ?_)
  refine a_go (by decide) (v_aload_n d_LW_law_480 rfl ?_)
  refine a_go (by decide) (v_iload_n d_LW_law_481 rfl ?_)
  refine a_go (by decide) (v_iconst d_LW_law_482 ki_1 ?_)
  refine a_go (by decide) (v_iadd d_LW_law_483 ?_)
  refine a_go (by decide) (v_sld d_LW_law_484 rfl (lw_in 1 (by omega) hn) ?_)
  refine a_go (by decide) (v_aload_n d_LW_law_485 rfl ?_)
  refine a_go (by decide) (v_iload_n d_LW_law_486 rfl ?_)
  refine a_go (by decide) (v_iconst d_LW_law_487 ki_2 ?_)
  refine a_go (by decide) (v_iadd d_LW_law_488 ?_)
  refine a_go (by decide) (v_sld d_LW_law_489 rfl (lw_in 2 (by omega) hn) ?_)
  refine a_go (by decide) (v_callV d_LW_law_490 rfl (mm_spl 3 rfl) rfl (Nat.le_of_ble_eq_true rfl) rfl (p2 _ ?_))
  exact a_go (by decide) (v_icmp_eq (t := 603) d_LW_law_493 (by decide) (fun _ => a_go (by decide) (lw_603 hn hi hk h2)) (fun c => absurd rfl c))
set_option maxHeartbeats 4000000 in
set_option maxRecDepth 10000 in
theorem lw_c_running {n i k f : Nat} {xs : Nat → Int32} {x : mm_S} (hn : n ≤ 2563) (hi : i + 5 ≤ n) (hk : k = n + 3 - i) (h : R x x) : mm_vc (G_LW n xs) LL 4 (some .boolean) code [50] (CLW n k) KLW (f + 60) 498 [(0, .ref 1000), (1, .ref 0), (2, .ref 11), (3, .int (nI i))] [] x := by
  obtain ⟨a, x1, x2, h2, p1, p2⟩ := pp_running h
  refine v_aload_n d_LW_law_498 rfl ?_
  refine a_go (by decide) (v_callV d_LW_law_499 rfl (mm_spl 1 rfl) rfl (Nat.le_of_ble_eq_true rfl) rfl (p1 _ ?_))
  refine a_go (by decide) (v_aload_n d_LW_law_502 rfl ?_)
  refine a_go (by decide) (v_callV d_LW_law_503 rfl (mm_spl 1 rfl) rfl (Nat.le_of_ble_eq_true rfl) rfl (p2 _ ?_))
  exact a_go (by decide) (v_icmp_eq (t := 603) d_LW_law_506 (by decide) (fun _ => a_go (by decide) (lw_603 hn hi hk h2)) (fun c => absurd rfl c))
set_option maxHeartbeats 4000000 in
set_option maxRecDepth 10000 in
theorem lw_c_watchdog {n i k f : Nat} {xs : Nat → Int32} {x : mm_S} (hn : n ≤ 2563) (hi : i + 5 ≤ n) (hk : k = n + 3 - i) (h : R x x) : mm_vc (G_LW n xs) LL 4 (some .boolean) code [50] (CLW n k) KLW (f + 60) 511 [(0, .ref 1000), (1, .ref 0), (2, .ref 11), (3, .int (nI i))] [] x := by
  obtain ⟨a, x1, x2, h2, p1, p2⟩ := pp_watchdog h
  refine v_aload_n d_LW_law_511 rfl ?_
  refine a_go (by decide) (v_callV d_LW_law_512 rfl (mm_spl 1 rfl) rfl (Nat.le_of_ble_eq_true rfl) rfl (p1 _ ?_))
  refine a_go (by decide) (v_aload_n d_LW_law_515 rfl ?_)
  refine a_go (by decide) (v_callV d_LW_law_516 rfl (mm_spl 1 rfl) rfl (Nat.le_of_ble_eq_true rfl) rfl (p2 _ ?_))
  exact a_go (by decide) (v_icmp_eq (t := 603) d_LW_law_519 (by decide) (fun _ => a_go (by decide) (lw_603 hn hi hk h2)) (fun c => absurd rfl c))
set_option maxHeartbeats 4000000 in
set_option maxRecDepth 10000 in
theorem lw_c_slot {n i k f : Nat} {xs : Nat → Int32} {x : mm_S} (hn : n ≤ 2563) (hi : i + 5 ≤ n) (hk : k = n + 3 - i) (h : R x x) : mm_vc (G_LW n xs) LL 4 (some .boolean) code [50] (CLW n k) KLW (f + 60) 524 [(0, .ref 1000), (1, .ref 0), (2, .ref 11), (3, .int (nI i))] [] x := by
  obtain ⟨a, x1, x2, h2, p1, p2⟩ := pp_slot (xs (Int32.toNatClampNeg (nI i + 1))) (xs (Int32.toNatClampNeg (nI i + 2))) h
  refine v_aload_n d_LW_law_524 rfl ?_
  refine a_go (by decide) (v_aload_n d_LW_law_525 rfl ?_)
  refine a_go (by decide) (v_iload_n d_LW_law_526 rfl ?_)
  refine a_go (by decide) (v_iconst d_LW_law_527 ki_1 ?_)
  refine a_go (by decide) (v_iadd d_LW_law_528 ?_)
  refine a_go (by decide) (v_sld d_LW_law_529 rfl (lw_in 1 (by omega) hn) ?_)
  refine a_go (by decide) (v_aload_n d_LW_law_530 rfl ?_)
  refine a_go (by decide) (v_iload_n d_LW_law_531 rfl ?_)
  refine a_go (by decide) (v_iconst d_LW_law_532 ki_2 ?_)
  refine a_go (by decide) (v_iadd d_LW_law_533 ?_)
  refine a_go (by decide) (v_sld d_LW_law_534 rfl (lw_in 2 (by omega) hn) ?_)
  refine a_go (by decide) (v_callV d_LW_law_535 rfl (mm_spl 3 rfl) rfl (Nat.le_of_ble_eq_true rfl) rfl (p1 _ ?_))
  refine a_go (by decide) (v_aload_n d_LW_law_538 rfl ?_)
  refine a_go (by decide) (v_aload_n d_LW_law_539 rfl ?_)
  refine a_go (by decide) (v_iload_n d_LW_law_540 rfl ?_)
  refine a_go (by decide) (v_iconst d_LW_law_541 ki_1 ?_)
  refine a_go (by decide) (v_iadd d_LW_law_542 ?_)
  refine a_go (by decide) (v_sld d_LW_law_543 rfl (lw_in 1 (by omega) hn) ?_)
  refine a_go (by decide) (v_aload_n d_LW_law_544 rfl ?_)
  refine a_go (by decide) (v_iload_n d_LW_law_545 rfl ?_)
  refine a_go (by decide) (v_iconst d_LW_law_546 ki_2 ?_)
  refine a_go (by decide) (v_iadd d_LW_law_547 ?_)
  refine a_go (by decide) (v_sld d_LW_law_548 rfl (lw_in 2 (by omega) hn) ?_)
  refine a_go (by decide) (v_callV d_LW_law_549 rfl (mm_spl 3 rfl) rfl (Nat.le_of_ble_eq_true rfl) rfl (p2 _ ?_))
  exact a_go (by decide) (v_icmp_eq (t := 603) d_LW_law_552 (by decide) (fun _ => a_go (by decide) (lw_603 hn hi hk h2)) (fun c => absurd rfl c))
set_option maxHeartbeats 4000000 in
set_option maxRecDepth 10000 in
theorem lw_c_record {n i k f : Nat} {xs : Nat → Int32} {x : mm_S} (hn : n ≤ 2563) (hi : i + 5 ≤ n) (hk : k = n + 3 - i) (h : R x x) : mm_vc (G_LW n xs) LL 4 (some .boolean) code [50] (CLW n k) KLW (f + 60) 557 [(0, .ref 1000), (1, .ref 0), (2, .ref 11), (3, .int (nI i))] [] x := by
  obtain ⟨a, x1, x2, h2, p1, p2⟩ := pp_record (xs (Int32.toNatClampNeg (nI i + 1))) h
  refine v_aload_n d_LW_law_557 rfl ?_
  refine a_go (by decide) (v_aload_n d_LW_law_558 rfl ?_)
  refine a_go (by decide) (v_iload_n d_LW_law_559 rfl ?_)
  refine a_go (by decide) (v_iconst d_LW_law_560 ki_1 ?_)
  refine a_go (by decide) (v_iadd d_LW_law_561 ?_)
  refine a_go (by decide) (v_sld d_LW_law_562 rfl (lw_in 1 (by omega) hn) ?_)
  refine a_go (by decide) (v_callV d_LW_law_563 rfl (mm_spl 2 rfl) rfl (Nat.le_of_ble_eq_true rfl) rfl (p1 _ ?_))
  refine a_go (by decide) (v_aload_n d_LW_law_566 rfl ?_)
  refine a_go (by decide) (v_aload_n d_LW_law_567 rfl ?_)
  refine a_go (by decide) (v_iload_n d_LW_law_568 rfl ?_)
  refine a_go (by decide) (v_iconst d_LW_law_569 ki_1 ?_)
  refine a_go (by decide) (v_iadd d_LW_law_570 ?_)
  refine a_go (by decide) (v_sld d_LW_law_571 rfl (lw_in 1 (by omega) hn) ?_)
  refine a_go (by decide) (v_callV d_LW_law_572 rfl (mm_spl 2 rfl) rfl (Nat.le_of_ble_eq_true rfl) rfl (p2 _ ?_))
  exact a_go (by decide) (v_icmp_eq (t := 603) d_LW_law_575 (by decide) (fun _ => a_go (by decide) (lw_603 hn hi hk h2)) (fun c => absurd rfl c))
set_option maxHeartbeats 4000000 in
set_option maxRecDepth 10000 in
theorem lw_c_count {n i k f : Nat} {xs : Nat → Int32} {x : mm_S} (hn : n ≤ 2563) (hi : i + 5 ≤ n) (hk : k = n + 3 - i) (h : R x x) : mm_vc (G_LW n xs) LL 4 (some .boolean) code [50] (CLW n k) KLW (f + 60) 580 [(0, .ref 1000), (1, .ref 0), (2, .ref 11), (3, .int (nI i))] [] x := by
  obtain ⟨a, x1, x2, h2, p1, p2⟩ := pp_count (xs (Int32.toNatClampNeg (nI i + 1))) h
  refine v_aload_n d_LW_law_580 rfl ?_
  refine a_go (by decide) (v_aload_n d_LW_law_581 rfl ?_)
  refine a_go (by decide) (v_iload_n d_LW_law_582 rfl ?_)
  refine a_go (by decide) (v_iconst d_LW_law_583 ki_1 ?_)
  refine a_go (by decide) (v_iadd d_LW_law_584 ?_)
  refine a_go (by decide) (v_sld d_LW_law_585 rfl (lw_in 1 (by omega) hn) ?_)
  refine a_go (by decide) (v_callV d_LW_law_586 rfl (mm_spl 2 rfl) rfl (Nat.le_of_ble_eq_true rfl) rfl (p1 _ ?_))
  refine a_go (by decide) (v_aload_n d_LW_law_589 rfl ?_)
  refine a_go (by decide) (v_aload_n d_LW_law_590 rfl ?_)
  refine a_go (by decide) (v_iload_n d_LW_law_591 rfl ?_)
  refine a_go (by decide) (v_iconst d_LW_law_592 ki_1 ?_)
  refine a_go (by decide) (v_iadd d_LW_law_593 ?_)
  refine a_go (by decide) (v_sld d_LW_law_594 rfl (lw_in 1 (by omega) hn) ?_)
  refine a_go (by decide) (v_callV d_LW_law_595 rfl (mm_spl 2 rfl) rfl (Nat.le_of_ble_eq_true rfl) rfl (p2 _ ?_))
  exact a_go (by decide) (v_icmp_eq (t := 603) d_LW_law_598 (by decide) (fun _ => a_go (by decide) (lw_603 hn hi hk h2)) (fun c => absurd rfl c))
set_option maxHeartbeats 4000000 in
set_option maxRecDepth 10000 in
theorem lw_h1 {n : Nat} {xs : Nat → Int32} (hn : n ≤ 2563) (k pc : Nat) (lv : mm_V) (x : mm_S) (_ : pc ∈ [50]) (hinv : ILW n k pc lv x) : ∃ m, mm_vc (G_LW n xs) LL 4 (some .boolean) code [50] (CLW n k) KLW m pc lv [] x := by
  obtain ⟨rfl, i, hk, hi0, rfl, h⟩ := hinv
  refine ⟨100, ?_⟩
  refine v_iload_n d_LW_law_50 rfl ?_
  refine a_go (by decide) (v_aload_n d_LW_law_51 rfl ?_)
  refine a_go (by decide) (v_slen d_LW_law_52 rfl ?_)
  refine a_go (by decide) (v_iconst d_LW_law_53 ki_5 ?_)
  refine a_go (by decide) (v_isub d_LW_law_54 ?_)
  refine a_go (by decide) (v_icmp_gt (t := 609) d_LW_law_55 (by decide) (fun _ => ?_) (fun c => ?_))
  · refine a_go (by decide) (v_iconst d_LW_law_609 ki_1 ?_)
    exact a_go (by decide) (v_zreturn d_LW_law_610 rfl (Or.inr rfl) rfl)
  · have hi := lw_gt hn hi0 c
    refine a_go (by decide) (v_aload_n d_LW_law_58 rfl ?_)
    refine a_go (by decide) (v_iload_n d_LW_law_59 rfl ?_)
    refine a_go (by decide) (v_sld d_LW_law_60 rfl (lw_in0 (by omega) hn) ?_)
    refine a_go (by decide) (v_bipush d_LW_law_61 kb_31 ?_)
    refine a_go (by decide) (v_iand d_LW_law_63 ?_)
    refine a_go (by decide) (v_sw d_LW_law_64 rfl (by decide) (by decide) (by decide) ?_)
    exact sw_c (w := 0) (by decide) (t := 156) (by decide) (fun _ => a_go (by decide) (lw_c_make hn hi hk h)) (fun _ => sw_c (w := 1) (by decide) (t := 209) (by decide) (fun _ => a_go (by decide) (lw_c_pack hn hi hk h)) (fun _ => sw_c (w := 2) (by decide) (t := 232) (by decide) (fun _ => a_go (by decide) (lw_c_alter hn hi hk h)) (fun _ => sw_c (w := 3) (by decide) (t := 265) (by decide) (fun _ => a_go (by decide) (lw_c_offer hn hi hk h)) (fun _ => sw_c (w := 4) (by decide) (t := 278) (by decide) (fun _ => a_go (by decide) (lw_c_block hn hi hk h)) (fun _ => sw_c (w := 5) (by decide) (t := 291) (by decide) (fun _ => a_go (by decide) (lw_c_finish hn hi hk h)) (fun _ => sw_c (w := 6) (by decide) (t := 304) (by decide) (fun _ => a_go (by decide) (lw_c_boot hn hi hk h)) (fun _ => sw_c (w := 7) (by decide) (t := 317) (by decide) (fun _ => a_go (by decide) (lw_c_confirm hn hi hk h)) (fun _ => sw_c (w := 8) (by decide) (t := 330) (by decide) (fun _ => a_go (by decide) (lw_c_tick hn hi hk h)) (fun _ => sw_c (w := 9) (by decide) (t := 353) (by decide) (fun _ => a_go (by decide) (lw_c_revoke hn hi hk h)) (fun _ => sw_c (w := 10) (by decide) (t := 376) (by decide) (fun _ => a_go (by decide) (lw_c_cut hn hi hk h)) (fun _ => sw_c (w := 11) (by decide) (t := 409) (by decide) (fun _ => a_go (by decide) (lw_c_start hn hi hk h)) (fun _ => sw_c (w := 12) (by decide) (t := 422) (by decide) (fun _ => a_go (by decide) (lw_c_rot hn hi hk h)) (fun _ => sw_c (w := 13) (by decide) (t := 465) (by decide) (fun _ => a_go (by decide) (lw_c_octet hn hi hk h)) (fun _ => sw_c (w := 14) (by decide) (t := 498) (by decide) (fun _ => a_go (by decide) (lw_c_running hn hi hk h)) (fun _ => sw_c (w := 15) (by decide) (t := 511) (by decide) (fun _ => a_go (by decide) (lw_c_watchdog hn hi hk h)) (fun _ => sw_c (w := 16) (by decide) (t := 524) (by decide) (fun _ => a_go (by decide) (lw_c_slot hn hi hk h)) (fun _ => sw_c (w := 17) (by decide) (t := 557) (by decide) (fun _ => a_go (by decide) (lw_c_record hn hi hk h)) (fun _ => sw_c (w := 18) (by decide) (t := 580) (by decide) (fun _ => a_go (by decide) (lw_c_count hn hi hk h)) (fun _ => sw_n (t := 603) (by decide) (a_go (by decide) (lw_603 hn hi hk h)))))))))))))))))))))
