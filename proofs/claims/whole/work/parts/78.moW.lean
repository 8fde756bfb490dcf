/-! TwoSlotsModel(..). -/
def z0 (k : Int64) : mm_S := (fun r => if r = 101 then -1 else if r = 103 then -1 else if r = 106 then -1 else 0, fun r => if r = 10 then k else 0, fun _ _ => 0)
set_option maxHeartbeats 4000000 in
set_option maxRecDepth 100000 in
theorem mo_W (tC : Nat → ClassId) (ad : Nat → Nat) (x : mm_S) (k : Int64) (h0 q1 q2 q3 q4 q5 q6 : Nat) : mm_W tC (fun j => if j < 11 then ad j else [h0, q1, q2, q3, q4, q5, q6].getD (j - 11) 0) LL (mm_mrg x (z0 k)) = (mm_W tC ad LC x ++ [(h0, .inr (5, [.long k, .ref q1, .int 0, .int (-1), .int 0, .int (-1), .int 0, .ref q2, .int 0, .ref q3, .int (-1), .int 0, .ref q4, .int 0, .int 0, .int 0, .int 0, .ref q5, .ref q6])), (q1, .inl (tC 1, 4096, .inl (fun _ => 0))), (q2, .inl (tC 1, 64, .inl (fun _ => 0))), (q3, .inl (tC 1, 64, .inl (fun _ => 0))), (q4, .inl (tC 1, 7, .inl (fun _ => 0))), (q5, .inl (tC 1, 64, .inl (fun _ => 0))), (q6, .inl (tC 1, 16, .inl (fun _ => 0)))]) := by
  apply List.ext_getElem?
  intro i
  rw [mm_W_get]
  by_cases hi : i < 11
  · rw [List.getElem?_append_left (by rw [mm_W_len]; exact hi), mm_W_get]
    have : i = 0 ∨ i = 1 ∨ i = 2 ∨ i = 3 ∨ i = 4 ∨ i = 5 ∨ i = 6 ∨ i = 7 ∨ i = 8 ∨ i = 9 ∨ i = 10 := by omega
    rcases this with h | h | h | h | h | h | h | h | h | h | h <;> subst h
    all_goals (simp only [LL, LC, List.getElem?_cons_zero, List.getElem?_cons_succ, Option.map_some, mm_cl, List.map_cons, List.map_nil, mm_fv, mm_cv, mm_mrg]; rfl)
  · rw [List.getElem?_append_right (by rw [mm_W_len]; show 11 ≤ i; omega), mm_W_len]
    by_cases h2 : i < 18
    · have : i = 11 ∨ i = 12 ∨ i = 13 ∨ i = 14 ∨ i = 15 ∨ i = 16 ∨ i = 17 := by omega
      rcases this with h | h | h | h | h | h | h <;> subst h
      all_goals rfl
    · rw [List.getElem?_eq_none (by show 18 ≤ i; omega), List.getElem?_eq_none (by show 7 ≤ i - 11; omega)]
      rfl
