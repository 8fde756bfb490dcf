-- TwoSlotsModel.booted()Z
def l_m_booted_139 (k : Nat) (x : mm_S) : Int32 × mm_S := match k with
  | 0 => (0, x)
  | k + 1 =>
    let y13 := e_m_activeSlot x
    if (e_m_isGood y13 x) = (0 : Int32) then
      if (e_m_isGood (e_m_otherOf y13 x) x) = (0 : Int32) then
        ((1 : Int32), x)
      else
        let q14 := e_m_appended (e_m_otherOf y13 x) (-2 : Int32) (-2 : Int32) (-2 : Int32) (-2 : Int64) x
        if q14.1 = (0 : Int32) then
          ((0 : Int32), q14.2)
        else
          let x15 := mm_setI q14.2 103 (e_m_otherOf y13 q14.2)
          ((1 : Int32), x15)
    else
      let x16 := mm_setI x 103 y13
      ((1 : Int32), x16)
def okl_m_booted_139 (k : Nat) (x : mm_S) : Prop := match k with
  | 0 => False
  | k + 1 => (ok_m_activeSlot  x) ∧ (let y13 := e_m_activeSlot x; (ok_m_isGood y13 x) ∧ (if (e_m_isGood y13 x) = (0 : Int32) then ((ok_m_isGood (e_m_otherOf y13 x) x) ∧ (if (e_m_isGood (e_m_otherOf y13 x) x) = (0 : Int32) then (True) else ((ok_m_appended (e_m_otherOf y13 x) (-2 : Int32) (-2 : Int32) (-2 : Int32) (-2 : Int64) x) ∧ (let q14 := e_m_appended (e_m_otherOf y13 x) (-2 : Int32) (-2 : Int32) (-2 : Int32) (-2 : Int64) x; if q14.1 = (0 : Int32) then (True) else (let x15 := mm_setI q14.2 103 (e_m_otherOf y13 q14.2); True))))) else (let x16 := mm_setI x 103 y13; True)))
def l_m_booted_112 (k : Nat) (u2 : Int32) (x : mm_S) : Int32 × mm_S := match k with
  | 0 => (0, x)
  | k + 1 =>
    if u2 = (255 : Int32) then
      l_m_booted_139 (1)  x
    else
      let q12 := e_m_appended (-2 : Int32) (255 : Int32) (0 : Int32) (-2 : Int32) (-2 : Int64) x
      if q12.1 = (0 : Int32) then
        ((0 : Int32), q12.2)
      else
        l_m_booted_139 (1)  q12.2
def okl_m_booted_112 (k : Nat) (u2 : Int32) (x : mm_S) : Prop := match k with
  | 0 => False
  | k + 1 => if u2 = (255 : Int32) then (okl_m_booted_139 (1)  x) else ((ok_m_appended (-2 : Int32) (255 : Int32) (0 : Int32) (-2 : Int32) (-2 : Int64) x) ∧ (let q12 := e_m_appended (-2 : Int32) (255 : Int32) (0 : Int32) (-2 : Int32) (-2 : Int64) x; if q12.1 = (0 : Int32) then (True) else (okl_m_booted_139 (1)  q12.2)))
def e_m_booted (x : mm_S) : Int32 × mm_S :=
  let x1 := mm_setA x 13 (upd (x.2.2 13) (Int32.toNatClampNeg (3 : Int32)) ((x.2.2 13 (Int32.toNatClampNeg (3 : Int32))) + (1 : Int32)))
  let x2 := mm_setI x1 106 (-1 : Int32)
  let x3 := mm_setI x2 103 (-1 : Int32)
  let x4 := mm_setI x3 104 (0 : Int32)
  let y5 := e_m_newest x4
  if y5 = (-1 : Int32) then
    ((1 : Int32), x4)
  else
    let y6 := x4.2.2 10 (Int32.toNatClampNeg (y5 + (5 : Int32)))
    let y7 := x4.2.2 10 (Int32.toNatClampNeg (y5 + (6 : Int32)))
    if (e_m_isGood y6 x4) = (0 : Int32) then
      l_m_booted_112 (1) y6 x4
    else
      if y7 ≤ (0 : Int32) then
        l_m_booted_112 (1) y6 x4
      else
        let q8 := e_m_appended (-2 : Int32) (-2 : Int32) (y7 - (1 : Int32)) (-2 : Int32) (-2 : Int64) x4
        if q8.1 = (0 : Int32) then
          ((0 : Int32), q8.2)
        else
          let x9 := mm_setI q8.2 103 y6
          let x10 := mm_setI x9 104 (20 : Int32)
          let x11 := mm_setA x10 13 (upd (x10.2.2 13) (Int32.toNatClampNeg (4 : Int32)) ((x10.2.2 13 (Int32.toNatClampNeg (4 : Int32))) + (1 : Int32)))
          ((1 : Int32), x11)
def ok_m_booted (x : mm_S) : Prop := (vp_in (3 : Int32) 7) ∧ ((vp_in (3 : Int32) 7) ∧ (let x1 := mm_setA x 13 (upd (x.2.2 13) (Int32.toNatClampNeg (3 : Int32)) ((x.2.2 13 (Int32.toNatClampNeg (3 : Int32))) + (1 : Int32))); let x2 := mm_setI x1 106 (-1 : Int32); let x3 := mm_setI x2 103 (-1 : Int32); let x4 := mm_setI x3 104 (0 : Int32); (ok_m_newest  x4) ∧ (let y5 := e_m_newest x4; if y5 = (-1 : Int32) then (True) else ((vp_in (y5 + (5 : Int32)) 4096) ∧ (let y6 := x4.2.2 10 (Int32.toNatClampNeg (y5 + (5 : Int32))); (vp_in (y5 + (6 : Int32)) 4096) ∧ (let y7 := x4.2.2 10 (Int32.toNatClampNeg (y5 + (6 : Int32))); (ok_m_isGood y6 x4) ∧ (if (e_m_isGood y6 x4) = (0 : Int32) then (okl_m_booted_112 (1) y6 x4) else (if y7 ≤ (0 : Int32) then (okl_m_booted_112 (1) y6 x4) else ((ok_m_appended (-2 : Int32) (-2 : Int32) (y7 - (1 : Int32)) (-2 : Int32) (-2 : Int64) x4) ∧ (let q8 := e_m_appended (-2 : Int32) (-2 : Int32) (y7 - (1 : Int32)) (-2 : Int32) (-2 : Int64) x4; if q8.1 = (0 : Int32) then (True) else (let x9 := mm_setI q8.2 103 y6; let x10 := mm_setI x9 104 (20 : Int32); (vp_in (4 : Int32) 7) ∧ ((vp_in (4 : Int32) 7) ∧ (let x11 := mm_setA x10 13 (upd (x10.2.2 13) (Int32.toNatClampNeg (4 : Int32)) ((x10.2.2 13 (Int32.toNatClampNeg (4 : Int32))) + (1 : Int32))); True)))))))))))))
def S_m_booted : mm_P := fun as x K => as = [.ref 11] ∧ (ok_m_booted x) ∧ K (some (.int (e_m_booted x).1)) (e_m_booted x).2
theorem i_m_booted {x : mm_S} {K : mm_K} (hpre : (ok_m_booted x)) (hk : K (some (.int (e_m_booted x).1)) (e_m_booted x).2) : S_m_booted [.ref 11] x K := ⟨rfl, hpre, hk⟩
def G_m_booted : mm_G := (FT_MO, CI_MO, CJ_MO, mm_tb [(156, 1, S_m_otherOf)], mm_tb [(80, 1, 5, S_m_newest), (169, 2, 5, S_m_isGood), (165, 6, 5, S_m_appended), (153, 1, 5, S_m_activeSlot)], none)
def rm_m_booted : Room := { frames := 4, cells := 0, slots := 0, locals := 98 }
abbrev Inv_m_booted : mm_K → List Value → mm_S → Nat → Nat → mm_V → mm_S → Prop := fun K _ _ k pc lv x => (pc = 112 ∧ ∃ (f : Nat) (u2 : Int32), k = f + 10 ∧ lv = [(0, .ref 11), (2, .int u2)] ∧ okl_m_booted_112 f u2 x ∧ K (some (.int (l_m_booted_112 f u2 x).1)) (l_m_booted_112 f u2 x).2) ∨ (pc = 139 ∧ ∃ (f : Nat), k = f + 0 ∧ lv = [(0, .ref 11)] ∧ okl_m_booted_139 f x ∧ K (some (.int (l_m_booted_139 f x).1)) (l_m_booted_139 f x).2)
set_option maxHeartbeats 40000000 in
set_option maxRecDepth 10000 in
theorem c_m_booted (l : Launch) : mm_Con l NW CL TB LL y_MO_booted b_MO_booted 5 (some .boolean) rm_m_booted S_m_booted := by
  sorry
