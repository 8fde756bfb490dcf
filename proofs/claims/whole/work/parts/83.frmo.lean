/-! The reference's making leaves the class's registers; the relation of one state with itself. -/
theorem fr_nE (u : Int32) (x : mm_S) : FR x (nE u x) := by
  unfold nE
  rw [l253_l]
  exact FR_A (by decide) (fr_line 1 (Int32.toInt64 u) 0 255 0 0 x)
theorem fr_mE (u1 u5 : Int32) (d : Int64) (x : mm_S) : FR x (mE u1 u5 d x) := by
  unfold mE
  rw [l206_l]
  exact FR_t (FR_A (by decide) (fr_header u1 u5 0 d x)) (fr_nE u1 _)
theorem fr_Y1 (y : mm_S) (b : Nat) : FR y (Y1 y b) := by
  unfold Y1
  exact FR_A (by decide) (FR_r y)
theorem fr_mo (v n : Int32) (k : Int64) (y : mm_S) : FR y (e_MOi v n k y) := by
  obtain ⟨b, b1, b2, b3, b4⟩ := bl_n n (x0C k)
  rw [mo_e (y := y) b2 b4]
  exact FR_t (fr_Y1 y b) (fr_mE v (nI b) _ _)
def x1L (v n : Int32) (k : Int64) : mm_S := e_TSi v n k (x0C k)
def x3L (v n : Int32) (k : Int64) : mm_S := e_MOi v n k (mm_mrg (x1L v n k) (z0 k))
theorem R_x3 (v n : Int32) (k : Int64) : R (x3L v n k) (x3L v n k) := by
  have h := R_init v n k
  have h' : R (x1L v n k) (x3L v n k) := h
  exact R_move h' (FR_t (mg_C (x1L v n k) (z0 k)) (fr_mo v n k (mm_mrg (x1L v n k) (z0 k)))) (RQ_r _)
theorem R_mrg {x x' : mm_S} (h : R x x) : R x (mm_mrg x' x) := R_move h (FR_r x) (mg_R x' x)
/-- behind a pair of calls: the class's new registers beside the reference's -/
theorem R_pair {x x' y' : mm_S} (h : R x' y') (c : FR (mm_mrg x' x) y') : R y' y' := R_move h (FR_t (mg_C x' x) c) (RQ_r _)
theorem R_pair0 {x x' : mm_S} (h : R x' (mm_mrg x' x)) : R (mm_mrg x' x) (mm_mrg x' x) := R_move h (mg_C x' x) (RQ_r _)
