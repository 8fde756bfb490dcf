def TB : List Cond := lw_tbl.filter goodWord
def NW : List Cond := lw_tbl.filter mm_isN
theorem mem_tb {i : Nat} {w : Cond} (h : lw_tbl[i]? = some w) (hg : goodWord w = true) : w ∈ TB := List.mem_filter.mpr ⟨List.mem_of_getElem? h, hg⟩
theorem mem_nw {i : Nat} {w : Cond} (h : lw_tbl[i]? = some w) (hg : mm_isN w = true) : w ∈ NW := List.mem_filter.mpr ⟨List.mem_of_getElem? h, hg⟩
theorem tb_good : GoodIn TB TB := fun w hw => ⟨hw, good_of_word (List.mem_filter.mp hw).2⟩
theorem nw_nest : ∀ w ∈ NW, mm_isN w = true := fun _ hw => (List.mem_filter.mp hw).2
theorem tb_all {l : List Cond} (h : ∀ w ∈ l, w ∈ lw_tbl ∧ goodWord w = true) : ∀ w ∈ l, w ∈ TB := fun w hw => List.mem_filter.mpr (h w hw)
def F_TS : u_T := fun k => match k with
  | 0 => ("TwoSlots", "key", "J", true)
  | 1 => ("TwoSlots", "flash", "LTwoSlots$Flash;", true)
  | 2 => ("TwoSlots", "log", "LTwoSlots$Log;", true)
  | 3 => ("TwoSlots", "maker", "LTwoSlots$Maker;", true)
  | 4 => ("TwoSlots", "tape", "[B", true)
  | 5 => ("TwoSlots", "tapeBytes", "I", false)
  | 6 => ("TwoSlots", "sheet", "LTwoSlots$Header;", true)
  | 7 => ("TwoSlots", "offered", "LTwoSlots$Header;", true)
  | 8 => ("TwoSlots", "offeredTo", "I", false)
  | 9 => ("TwoSlots", "awaited", "I", false)
  | 10 => ("TwoSlots", "runs", "I", false)
  | 11 => ("TwoSlots", "ticksLeft", "I", false)
  | 12 => ("TwoSlots", "boots", "I", false)
  | 13 => ("TwoSlots", "trials", "I", false)
  | 14 => ("TwoSlots", "watchdogs", "I", false)
  | _ => ("TwoSlots", "updates", "I", false)
def t_TS : Nat → FieldType := fun k => match k with
  | 0 => .long
  | 1 => .object "TwoSlots$Flash"
  | 2 => .object "TwoSlots$Log"
  | 3 => .object "TwoSlots$Maker"
  | 4 => .array .byte
  | 5 => .int
  | 6 => .object "TwoSlots$Header"
  | 7 => .object "TwoSlots$Header"
  | 8 => .int
  | 9 => .int
  | 10 => .int
  | 11 => .int
  | 12 => .int
  | 13 => .int
  | 14 => .int
  | _ => .int
theorem nn_TS : ∀ a, a < 16 → ∀ b, b < 16 → a ≠ b → (F_TS a).2.1 ≠ (F_TS b).2.1 := by decide +kernel
theorem tt_TS : ∀ k, k < 16 → parseFieldDescriptor (F_TS k).2.2.1 = some (t_TS k) := by decide +kernel
theorem ww_TS : ∀ w ∈ u_ws "TwoSlots" F_TS 16, w ∈ TB := tb_all (by decide +kernel)
def F_FL : u_T := fun k => match k with
  | 0 => ("TwoSlots$Flash", "cells", "[B", true)
  | 1 => ("TwoSlots$Flash", "writesAhead", "I", false)
  | 2 => ("TwoSlots$Flash", "tear", "I", false)
  | 3 => ("TwoSlots$Flash", "down", "Z", false)
  | 4 => ("TwoSlots$Flash", "writes", "I", false)
  | _ => ("TwoSlots$Flash", "erases", "I", false)
def t_FL : Nat → FieldType := fun k => match k with
  | 0 => .array .byte
  | 1 => .int
  | 2 => .int
  | 3 => .boolean
  | 4 => .int
  | _ => .int
theorem nn_FL : ∀ a, a < 6 → ∀ b, b < 6 → a ≠ b → (F_FL a).2.1 ≠ (F_FL b).2.1 := by decide +kernel
theorem tt_FL : ∀ k, k < 6 → parseFieldDescriptor (F_FL k).2.2.1 = some (t_FL k) := by decide +kernel
theorem ww_FL : ∀ w ∈ u_ws "TwoSlots$Flash" F_FL 6, w ∈ TB := tb_all (by decide +kernel)
def F_LG : u_T := fun k => match k with
  | 0 => ("TwoSlots$Log", "flash", "LTwoSlots$Flash;", true)
  | 1 => ("TwoSlots$Log", "line", "[B", true)
  | 2 => ("TwoSlots$Log", "appended", "I", false)
  | 3 => ("TwoSlots$Log", "newest", "I", false)
  | 4 => ("TwoSlots$Log", "serial", "I", false)
  | 5 => ("TwoSlots$Log", "active", "I", false)
  | 6 => ("TwoSlots$Log", "trying", "I", false)
  | 7 => ("TwoSlots$Log", "tries", "I", false)
  | 8 => ("TwoSlots$Log", "revoked", "I", false)
  | _ => ("TwoSlots$Log", "counter", "I", false)
def t_LG : Nat → FieldType := fun k => match k with
  | 0 => .object "TwoSlots$Flash"
  | 1 => .array .byte
  | 2 => .int
  | 3 => .int
  | 4 => .int
  | 5 => .int
  | 6 => .int
  | 7 => .int
  | 8 => .int
  | _ => .int
theorem nn_LG : ∀ a, a < 10 → ∀ b, b < 10 → a ≠ b → (F_LG a).2.1 ≠ (F_LG b).2.1 := by decide +kernel
theorem tt_LG : ∀ k, k < 10 → parseFieldDescriptor (F_LG k).2.2.1 = some (t_LG k) := by decide +kernel
theorem ww_LG : ∀ w ∈ u_ws "TwoSlots$Log" F_LG 10, w ∈ TB := tb_all (by decide +kernel)
def F_MK : u_T := fun k => match k with
  | 0 => ("TwoSlots$Maker", "version", "I", false)
  | 1 => ("TwoSlots$Maker", "size", "I", false)
  | 2 => ("TwoSlots$Maker", "key", "I", false)
  | _ => ("TwoSlots$Maker", "seed", "I", false)
def t_MK : Nat → FieldType := fun k => match k with
  | 0 => .int
  | 1 => .int
  | 2 => .int
  | _ => .int
theorem nn_MK : ∀ a, a < 4 → ∀ b, b < 4 → a ≠ b → (F_MK a).2.1 ≠ (F_MK b).2.1 := by decide +kernel
theorem tt_MK : ∀ k, k < 4 → parseFieldDescriptor (F_MK k).2.2.1 = some (t_MK k) := by decide +kernel
theorem ww_MK : ∀ w ∈ u_ws "TwoSlots$Maker" F_MK 4, w ∈ TB := tb_all (by decide +kernel)
def F_HD : u_T := fun k => match k with
  | _ => ("TwoSlots$Header", "row", "[B", true)
def t_HD : Nat → FieldType := fun k => match k with
  | _ => .array .byte
theorem nn_HD : ∀ a, a < 1 → ∀ b, b < 1 → a ≠ b → (F_HD a).2.1 ≠ (F_HD b).2.1 := by decide +kernel
theorem tt_HD : ∀ k, k < 1 → parseFieldDescriptor (F_HD k).2.2.1 = some (t_HD k) := by decide +kernel
theorem ww_HD : ∀ w ∈ u_ws "TwoSlots$Header" F_HD 1, w ∈ TB := tb_all (by decide +kernel)
def F_MO : u_T := fun k => match k with
  | 0 => ("TwoSlotsModel", "secret", "J", true)
  | 1 => ("TwoSlotsModel", "flash", "[I", true)
  | 2 => ("TwoSlotsModel", "down", "Z", false)
  | 3 => ("TwoSlotsModel", "cut", "I", false)
  | 4 => ("TwoSlotsModel", "tear", "I", false)
  | 5 => ("TwoSlotsModel", "runs", "I", false)
  | 6 => ("TwoSlotsModel", "ticksLeft", "I", false)
  | 7 => ("TwoSlotsModel", "tape", "[I", true)
  | 8 => ("TwoSlotsModel", "taped", "I", false)
  | 9 => ("TwoSlotsModel", "offered", "[I", true)
  | 10 => ("TwoSlotsModel", "target", "I", false)
  | 11 => ("TwoSlotsModel", "next", "I", false)
  | 12 => ("TwoSlotsModel", "counts", "[I", true)
  | 13 => ("TwoSlotsModel", "makerVersion", "I", false)
  | 14 => ("TwoSlotsModel", "makerSize", "I", false)
  | 15 => ("TwoSlotsModel", "makerKey", "I", false)
  | 16 => ("TwoSlotsModel", "makerSeed", "I", false)
  | 17 => ("TwoSlotsModel", "made", "[I", true)
  | _ => ("TwoSlotsModel", "line", "[I", true)
def t_MO : Nat → FieldType := fun k => match k with
  | 0 => .long
  | 1 => .array .int
  | 2 => .boolean
  | 3 => .int
  | 4 => .int
  | 5 => .int
  | 6 => .int
  | 7 => .array .int
  | 8 => .int
  | 9 => .array .int
  | 10 => .int
  | 11 => .int
  | 12 => .array .int
  | 13 => .int
  | 14 => .int
  | 15 => .int
  | 16 => .int
  | 17 => .array .int
  | _ => .array .int
theorem nn_MO : ∀ a, a < 19 → ∀ b, b < 19 → a ≠ b → (F_MO a).2.1 ≠ (F_MO b).2.1 := by decide +kernel
theorem tt_MO : ∀ k, k < 19 → parseFieldDescriptor (F_MO k).2.2.1 = some (t_MO k) := by decide +kernel
theorem ww_MO : ∀ w ∈ u_ws "TwoSlotsModel" F_MO 19, w ∈ TB := tb_all (by decide +kernel)
def CL : List vw_C := [("TwoSlots", F_TS, 16), ("TwoSlots$Flash", F_FL, 6), ("TwoSlots$Log", F_LG, 10), ("TwoSlots$Maker", F_MK, 4), ("TwoSlots$Header", F_HD, 1), ("TwoSlotsModel", F_MO, 19)]
def LC : mm_L := [.inr (0, [(2, 0), (0, 1), (0, 3), (0, 5), (0, 6), (1, 0), (0, 7), (0, 9), (1, 1), (1, 2), (1, 3), (1, 4), (1, 5), (1, 6), (1, 7), (1, 8)]), .inr (1, [(0, 2), (1, 10), (1, 11), (1, 12), (1, 13), (1, 14)]), .inl (0, 4096, 1), .inr (2, [(0, 1), (0, 4), (1, 20), (1, 21), (1, 22), (1, 23), (1, 24), (1, 25), (1, 26), (1, 27)]), .inl (0, 16, 2), .inr (3, [(1, 30), (1, 31), (1, 32), (1, 33)]), .inl (0, 64, 0), .inr (4, [(0, 8)]), .inl (0, 64, 3), .inr (4, [(0, 10)]), .inl (0, 64, 4)]
def LC_pos (d : Nat × Nat) : Nat × Nat := ([((2, 0), (0, 0)), ((1, 0), (0, 5)), ((1, 1), (0, 8)), ((1, 2), (0, 9)), ((1, 3), (0, 10)), ((1, 4), (0, 11)), ((1, 5), (0, 12)), ((1, 6), (0, 13)), ((1, 7), (0, 14)), ((1, 8), (0, 15)), ((1, 10), (1, 1)), ((1, 11), (1, 2)), ((1, 12), (1, 3)), ((1, 13), (1, 4)), ((1, 14), (1, 5)), ((1, 20), (3, 2)), ((1, 21), (3, 3)), ((1, 22), (3, 4)), ((1, 23), (3, 5)), ((1, 24), (3, 6)), ((1, 25), (3, 7)), ((1, 26), (3, 8)), ((1, 27), (3, 9)), ((1, 30), (5, 0)), ((1, 31), (5, 1)), ((1, 32), (5, 2)), ((1, 33), (5, 3))].lookup d).getD (0, 0)
def LC_pa (r : Nat) : Nat := ([(1, 2), (2, 4), (0, 6), (3, 8), (4, 10)].lookup r).getD 0
theorem LC_u : mm_Lu LC := mm_chk_ok LC_pos LC_pa (by decide +kernel)
theorem LC_n : mm_Ln LC := mm_lnc_ok (by decide +kernel)
def LR : mm_L := [.inr (5, [(2, 10), (0, 12), (1, 100), (1, 101), (1, 102), (1, 103), (1, 104), (0, 13), (1, 105), (0, 14), (1, 106), (1, 107), (0, 15), (1, 108), (1, 109), (1, 110), (1, 111), (0, 16), (0, 17)]), .inl (1, 4096, 10), .inl (1, 64, 11), .inl (1, 64, 12), .inl (1, 7, 13), .inl (1, 64, 14), .inl (1, 16, 15)]
def LL : mm_L := [.inr (0, [(2, 0), (0, 1), (0, 3), (0, 5), (0, 6), (1, 0), (0, 7), (0, 9), (1, 1), (1, 2), (1, 3), (1, 4), (1, 5), (1, 6), (1, 7), (1, 8)]), .inr (1, [(0, 2), (1, 10), (1, 11), (1, 12), (1, 13), (1, 14)]), .inl (0, 4096, 1), .inr (2, [(0, 1), (0, 4), (1, 20), (1, 21), (1, 22), (1, 23), (1, 24), (1, 25), (1, 26), (1, 27)]), .inl (0, 16, 2), .inr (3, [(1, 30), (1, 31), (1, 32), (1, 33)]), .inl (0, 64, 0), .inr (4, [(0, 8)]), .inl (0, 64, 3), .inr (4, [(0, 10)]), .inl (0, 64, 4), .inr (5, [(2, 10), (0, 12), (1, 100), (1, 101), (1, 102), (1, 103), (1, 104), (0, 13), (1, 105), (0, 14), (1, 106), (1, 107), (0, 15), (1, 108), (1, 109), (1, 110), (1, 111), (0, 16), (0, 17)]), .inl (1, 4096, 10), .inl (1, 64, 11), .inl (1, 64, 12), .inl (1, 7, 13), .inl (1, 64, 14), .inl (1, 16, 15)]
def LL_pos (d : Nat × Nat) : Nat × Nat := ([((2, 0), (0, 0)), ((1, 0), (0, 5)), ((1, 1), (0, 8)), ((1, 2), (0, 9)), ((1, 3), (0, 10)), ((1, 4), (0, 11)), ((1, 5), (0, 12)), ((1, 6), (0, 13)), ((1, 7), (0, 14)), ((1, 8), (0, 15)), ((1, 10), (1, 1)), ((1, 11), (1, 2)), ((1, 12), (1, 3)), ((1, 13), (1, 4)), ((1, 14), (1, 5)), ((1, 20), (3, 2)), ((1, 21), (3, 3)), ((1, 22), (3, 4)), ((1, 23), (3, 5)), ((1, 24), (3, 6)), ((1, 25), (3, 7)), ((1, 26), (3, 8)), ((1, 27), (3, 9)), ((1, 30), (5, 0)), ((1, 31), (5, 1)), ((1, 32), (5, 2)), ((1, 33), (5, 3)), ((2, 10), (11, 0)), ((1, 100), (11, 2)), ((1, 101), (11, 3)), ((1, 102), (11, 4)), ((1, 103), (11, 5)), ((1, 104), (11, 6)), ((1, 105), (11, 8)), ((1, 106), (11, 10)), ((1, 107), (11, 11)), ((1, 108), (11, 13)), ((1, 109), (11, 14)), ((1, 110), (11, 15)), ((1, 111), (11, 16))].lookup d).getD (0, 0)
def LL_pa (r : Nat) : Nat := ([(1, 2), (2, 4), (0, 6), (3, 8), (4, 10), (10, 12), (11, 13), (12, 14), (13, 15), (14, 16), (15, 17)].lookup r).getD 0
theorem LL_u : mm_Lu LL := mm_chk_ok LL_pos LL_pa (by decide +kernel)
theorem LL_n : mm_Ln LL := mm_lnc_ok (by decide +kernel)
theorem LL_eq : LL = LC ++ LR := rfl
theorem kb_m106 : (Int8.ofInt (-106)).toInt32 = (-106 : Int32) := by decide
theorem kb_m105 : (Int8.ofInt (-105)).toInt32 = (-105 : Int32) := by decide
theorem kb_m103 : (Int8.ofInt (-103)).toInt32 = (-103 : Int32) := by decide
theorem kb_m102 : (Int8.ofInt (-102)).toInt32 = (-102 : Int32) := by decide
theorem kb_m101 : (Int8.ofInt (-101)).toInt32 = (-101 : Int32) := by decide
theorem kb_m100 : (Int8.ofInt (-100)).toInt32 = (-100 : Int32) := by decide
theorem kb_6 : (Int8.ofInt 6).toInt32 = (6 : Int32) := by decide
theorem kb_7 : (Int8.ofInt 7).toInt32 = (7 : Int32) := by decide
theorem kb_8 : (Int8.ofInt 8).toInt32 = (8 : Int32) := by decide
theorem kb_12 : (Int8.ofInt 12).toInt32 = (12 : Int32) := by decide
theorem kb_13 : (Int8.ofInt 13).toInt32 = (13 : Int32) := by decide
theorem kb_15 : (Int8.ofInt 15).toInt32 = (15 : Int32) := by decide
theorem kb_16 : (Int8.ofInt 16).toInt32 = (16 : Int32) := by decide
theorem kb_20 : (Int8.ofInt 20).toInt32 = (20 : Int32) := by decide
theorem kb_28 : (Int8.ofInt 28).toInt32 = (28 : Int32) := by decide
theorem kb_30 : (Int8.ofInt 30).toInt32 = (30 : Int32) := by decide
theorem kb_31 : (Int8.ofInt 31).toInt32 = (31 : Int32) := by decide
theorem kb_56 : (Int8.ofInt 56).toInt32 = (56 : Int32) := by decide
theorem kb_64 : (Int8.ofInt 64).toInt32 = (64 : Int32) := by decide
theorem kb_90 : (Int8.ofInt 90).toInt32 = (90 : Int32) := by decide
theorem kb_100 : (Int8.ofInt 100).toInt32 = (100 : Int32) := by decide
theorem ki_m1 : Int32.ofInt (-1) = (-1 : Int32) := by decide
theorem ki_0 : Int32.ofInt 0 = (0 : Int32) := by decide
theorem ki_1 : Int32.ofInt 1 = (1 : Int32) := by decide
theorem ki_2 : Int32.ofInt 2 = (2 : Int32) := by decide
theorem ki_3 : Int32.ofInt 3 = (3 : Int32) := by decide
theorem ki_4 : Int32.ofInt 4 = (4 : Int32) := by decide
theorem ki_5 : Int32.ofInt 5 = (5 : Int32) := by decide
theorem ki_16 : Int32.ofInt 16 = (16 : Int32) := by decide
theorem kl_0 : Int64.ofNat ((0 : Fin 2) : Nat) = (0 : Int64) := by decide
theorem kl_1 : Int64.ofNat ((1 : Fin 2) : Nat) = (1 : Int64) := by decide
theorem ks_128 : (Int16.ofInt 128).toInt32 = (128 : Int32) := by decide
theorem ks_255 : (Int16.ofInt 255).toInt32 = (255 : Int32) := by decide
theorem ks_1000 : (Int16.ofInt 1000).toInt32 = (1000 : Int32) := by decide
