def sIn (x a b : Int32) : Bool := decide (a ≤ x) && decide (x ≤ b)
def sSoul (s : Int32) : Bool := decide (0 ≤ s) && decide (s < 8)
def sBox (b : Int32) : Bool := decide (0 ≤ b) && decide (b < 6)
def sBit (bits p : Int32) : Bool := decide ((bits >>> (p &&& 31)) &&& 1 = 1)
def ushr (x y : Int32) : Int32 := (x.toUInt32 >>> (y.toUInt32 &&& Int32.toUInt32 31)).toInt32
def bc1 (x : Int32) : Int32 := x - (ushr x 1 &&& 1431655765)
def bc2 (x : Int32) : Int32 := (x &&& 858993459) + (ushr x 2 &&& 858993459)
def bc3 (x : Int32) : Int32 := (x + ushr x 4) &&& 252645135
def bc4 (x : Int32) : Int32 := x + ushr x 8
def bc5 (x : Int32) : Int32 := x + ushr x 16
def bc (x : Int32) : Int32 := bc5 (bc4 (bc3 (bc2 (bc1 x)))) &&& 63
def sDeb (a b : Int32) : Int32 := a * 8 + b
def lpow (v : Int64) : Nat → Int64
  | 0 => 1
  | n + 1 => lpow v n * v
set_option maxRecDepth 100000 in
set_option maxHeartbeats 4000000 in
theorem pm_X6_isWithin {l : Launch} {D : va_G} {h : PH} {x a b : Int32} : PM l D YX6_isWithin 1 [.int x, .int a, .int b] h 0 0 (some (.int (b2i (sIn x a b)))) h := by
  refine pm_of2 (n0 := h.length) kb_YX6_isWithin rfl [some (.int x), some (.int a), some (.int b)] (fun _ => rfl) (fun _ => (Nat.le_of_ble_eq_true rfl)) ?_
  refine w_iload_n dX6_isWithin_0 rfl ?_
  refine w_iload_n dX6_isWithin_1 rfl ?_
  refine w_ticmp_lt (a := ?a2_1) (b := ?b2_1) (pJ := 15) (tgt := 14) dX6_isWithin_2 (by decide) (fun c_2 k => ?hA2_1) (fun c_2 k => ?hB2_1) ?hk2_1
  case hA2_1 =>
    refine w_iconst (v := 0) dX6_isWithin_14 (by decide) ?_
    exact k
  case hB2_1 =>
    refine w_iload_n dX6_isWithin_5 rfl ?_
    refine w_iload_n dX6_isWithin_6 rfl ?_
    refine w_ticmp_gt (a := ?a7_2) (b := ?b7_2) (pJ := 15) (tgt := 14) dX6_isWithin_7 (by decide) (fun c_7 k => ?hA7_2) (fun c_7 k => ?hB7_2) ?hk7_2
    case hA7_2 =>
      refine w_iconst (v := 0) dX6_isWithin_14 (by decide) ?_
      exact k
    case hB7_2 =>
      refine w_iconst (v := 1) dX6_isWithin_10 (by decide) ?_
      refine w_goto (tgt := 15) dX6_isWithin_11 (by decide) ?_
      exact k
    exact k
  exact w_zretb dX6_isWithin_15 rfl (by simp only [b2i, sIn, sSoul, sBox, sBit, Bool.and_eq_true, decide_eq_true_eq, ← Int32.not_lt] <;> repeat (split <;> simp_all)) rfl rfl (Nat.le_refl 0)

set_option maxRecDepth 100000 in
set_option maxHeartbeats 4000000 in
theorem pm_X6_isSoul {l : Launch} {D : va_G} {h : PH} {x : Int32} : PM l D YX6_isSoul 1 [.int x] h 0 0 (some (.int (b2i (sSoul x)))) h := by
  refine pm_of2 (n0 := h.length) kb_YX6_isSoul rfl [some (.int x)] (fun _ => rfl) (fun _ => (Nat.le_of_ble_eq_true rfl)) ?_
  refine w_iload_n dX6_isSoul_0 rfl ?_
  refine w_tif_lt (a := ?a1_1) (b := ?b1_1) (pJ := 15) (tgt := 14) dX6_isSoul_1 (by decide) (fun c_1 k => ?hA1_1) (fun c_1 k => ?hB1_1) ?hk1_1
  case hA1_1 =>
    refine w_iconst (v := 0) dX6_isSoul_14 (by decide) ?_
    exact k
  case hB1_1 =>
    refine w_iload_n dX6_isSoul_4 rfl ?_
    refine w_bipush (v := 8) dX6_isSoul_5 (by decide) ?_
    refine w_ticmp_ge (a := ?a7_2) (b := ?b7_2) (pJ := 15) (tgt := 14) dX6_isSoul_7 (by decide) (fun c_7 k => ?hA7_2) (fun c_7 k => ?hB7_2) ?hk7_2
    case hA7_2 =>
      refine w_iconst (v := 0) dX6_isSoul_14 (by decide) ?_
      exact k
    case hB7_2 =>
      refine w_iconst (v := 1) dX6_isSoul_10 (by decide) ?_
      refine w_goto (tgt := 15) dX6_isSoul_11 (by decide) ?_
      exact k
    exact k
  exact w_zretb dX6_isSoul_15 rfl (by simp only [b2i, sIn, sSoul, sBox, sBit, Bool.and_eq_true, decide_eq_true_eq, ← Int32.not_lt] <;> repeat (split <;> simp_all)) rfl rfl (Nat.le_refl 0)

set_option maxRecDepth 100000 in
set_option maxHeartbeats 4000000 in
theorem pm_X6_isBox {l : Launch} {D : va_G} {h : PH} {x : Int32} : PM l D YX6_isBox 1 [.int x] h 0 0 (some (.int (b2i (sBox x)))) h := by
  refine pm_of2 (n0 := h.length) kb_YX6_isBox rfl [some (.int x)] (fun _ => rfl) (fun _ => (Nat.le_of_ble_eq_true rfl)) ?_
  refine w_iload_n dX6_isBox_0 rfl ?_
  refine w_tif_lt (a := ?a1_1) (b := ?b1_1) (pJ := 15) (tgt := 14) dX6_isBox_1 (by decide) (fun c_1 k => ?hA1_1) (fun c_1 k => ?hB1_1) ?hk1_1
  case hA1_1 =>
    refine w_iconst (v := 0) dX6_isBox_14 (by decide) ?_
    exact k
  case hB1_1 =>
    refine w_iload_n dX6_isBox_4 rfl ?_
    refine w_bipush (v := 6) dX6_isBox_5 (by decide) ?_
    refine w_ticmp_ge (a := ?a7_2) (b := ?b7_2) (pJ := 15) (tgt := 14) dX6_isBox_7 (by decide) (fun c_7 k => ?hA7_2) (fun c_7 k => ?hB7_2) ?hk7_2
    case hA7_2 =>
      refine w_iconst (v := 0) dX6_isBox_14 (by decide) ?_
      exact k
    case hB7_2 =>
      refine w_iconst (v := 1) dX6_isBox_10 (by decide) ?_
      refine w_goto (tgt := 15) dX6_isBox_11 (by decide) ?_
      exact k
    exact k
  exact w_zretb dX6_isBox_15 rfl (by simp only [b2i, sIn, sSoul, sBox, sBit, Bool.and_eq_true, decide_eq_true_eq, ← Int32.not_lt] <;> repeat (split <;> simp_all)) rfl rfl (Nat.le_refl 0)

set_option maxRecDepth 100000 in
set_option maxHeartbeats 4000000 in
theorem pm_X6_hasBit {l : Launch} {D : va_G} {h : PH} {x y : Int32} : PM l D YX6_hasBit 1 [.int x, .int y] h 0 0 (some (.int (b2i (sBit x y)))) h := by
  refine pm_of2 (n0 := h.length) kb_YX6_hasBit rfl [some (.int x), some (.int y)] (fun _ => rfl) (fun _ => (Nat.le_of_ble_eq_true rfl)) ?_
  refine w_iload_n dX6_hasBit_0 rfl ?_
  refine w_iload_n dX6_hasBit_1 rfl ?_
  refine w_ishr dX6_hasBit_2 ?_
  refine w_iconst (v := 1) dX6_hasBit_3 (by decide) ?_
  refine w_iand dX6_hasBit_4 ?_
  refine w_iconst (v := 1) dX6_hasBit_5 (by decide) ?_
  refine w_ticmp_ne (a := ?a6_1) (b := ?b6_1) (pJ := 14) (tgt := 13) dX6_hasBit_6 (by decide) (fun c_6 k => ?hA6_1) (fun c_6 k => ?hB6_1) ?hk6_1
  case hA6_1 =>
    refine w_iconst (v := 0) dX6_hasBit_13 (by decide) ?_
    exact k
  case hB6_1 =>
    refine w_iconst (v := 1) dX6_hasBit_9 (by decide) ?_
    refine w_goto (tgt := 14) dX6_hasBit_10 (by decide) ?_
    exact k
  exact w_zretb dX6_hasBit_14 rfl (by simp only [b2i, sIn, sSoul, sBox, sBit, Bool.and_eq_true, decide_eq_true_eq, ← Int32.not_lt] <;> repeat (split <;> simp_all)) rfl rfl (Nat.le_refl 0)

set_option maxRecDepth 100000 in
set_option maxHeartbeats 4000000 in
theorem pm_X5_debtPlace {l : Launch} {D : va_G} {h : PH} {x y : Int32} : PM l D YX5_debtPlace 1 [.int x, .int y] h 0 0 (some (.int (sDeb x y))) h := by
  refine pm_of2 (n0 := h.length) kb_YX5_debtPlace rfl [some (.int x), some (.int y)] (fun _ => rfl) (fun _ => (Nat.le_of_ble_eq_true rfl)) ?_
  refine w_iload_n dX5_debtPlace_0 rfl ?_
  refine w_bipush (v := 8) dX5_debtPlace_1 (by decide) ?_
  refine w_imul dX5_debtPlace_3 ?_
  refine w_iload_n dX5_debtPlace_4 rfl ?_
  refine w_iadd dX5_debtPlace_5 ?_
  exact w_iret dX5_debtPlace_6 rfl rfl rfl rfl (Nat.le_refl 0)

set_option maxRecDepth 100000 in
set_option maxHeartbeats 4000000 in
theorem pm_bitCount {l : Launch} {D : va_G} {h : PH} {x : Int32} : PM l D YJ6_bitCount_0f7a4 1 [.int x] h 0 0 (some (.int (bc x))) h := by
  refine pm_of2 (n0 := h.length) kb_YJ6_bitCount_0f7a4 rfl [some (.int x)] (fun _ => rfl) (fun _ => (Nat.le_of_ble_eq_true rfl)) ?_
  refine w_iload_n dJ6_bitCount_0f7a4_0 rfl ?_
  refine w_iload_n dJ6_bitCount_0f7a4_1 rfl ?_
  refine w_iconst (v := 1) dJ6_bitCount_0f7a4_2 (by decide) ?_
  refine w_iushr dJ6_bitCount_0f7a4_3 ?_
  refine w_ldcw dJ6_bitCount_0f7a4_4 q_J6_265 ?_
  refine w_iand dJ6_bitCount_0f7a4_7 ?_
  refine w_isub dJ6_bitCount_0f7a4_8 ?_
  refine w_istore_0 dJ6_bitCount_0f7a4_9 (Nat.le_of_ble_eq_true rfl) ?_
  refine w_leq (L2 := [some (.int (bc1 x))]) rfl ?_
  refine w_iload_n dJ6_bitCount_0f7a4_10 rfl ?_
  refine w_ldcw dJ6_bitCount_0f7a4_11 q_J6_266 ?_
  refine w_iand dJ6_bitCount_0f7a4_14 ?_
  refine w_iload_n dJ6_bitCount_0f7a4_15 rfl ?_
  refine w_iconst (v := 2) dJ6_bitCount_0f7a4_16 (by decide) ?_
  refine w_iushr dJ6_bitCount_0f7a4_17 ?_
  refine w_ldcw dJ6_bitCount_0f7a4_18 q_J6_266 ?_
  refine w_iand dJ6_bitCount_0f7a4_21 ?_
  refine w_iadd dJ6_bitCount_0f7a4_22 ?_
  refine w_istore_0 dJ6_bitCount_0f7a4_23 (Nat.le_of_ble_eq_true rfl) ?_
  refine w_leq (L2 := [some (.int (bc2 (bc1 x)))]) rfl ?_
  refine w_iload_n dJ6_bitCount_0f7a4_24 rfl ?_
  refine w_iload_n dJ6_bitCount_0f7a4_25 rfl ?_
  refine w_iconst (v := 4) dJ6_bitCount_0f7a4_26 (by decide) ?_
  refine w_iushr dJ6_bitCount_0f7a4_27 ?_
  refine w_iadd dJ6_bitCount_0f7a4_28 ?_
  refine w_ldcw dJ6_bitCount_0f7a4_29 q_J6_267 ?_
  refine w_iand dJ6_bitCount_0f7a4_32 ?_
  refine w_istore_0 dJ6_bitCount_0f7a4_33 (Nat.le_of_ble_eq_true rfl) ?_
  refine w_leq (L2 := [some (.int (bc3 (bc2 (bc1 x))))]) rfl ?_
  refine w_iload_n dJ6_bitCount_0f7a4_34 rfl ?_
  refine w_iload_n dJ6_bitCount_0f7a4_35 rfl ?_
  refine w_bipush (v := 8) dJ6_bitCount_0f7a4_36 (by decide) ?_
  refine w_iushr dJ6_bitCount_0f7a4_38 ?_
  refine w_iadd dJ6_bitCount_0f7a4_39 ?_
  refine w_istore_0 dJ6_bitCount_0f7a4_40 (Nat.le_of_ble_eq_true rfl) ?_
  refine w_leq (L2 := [some (.int (bc4 (bc3 (bc2 (bc1 x)))))]) rfl ?_
  refine w_iload_n dJ6_bitCount_0f7a4_41 rfl ?_
  refine w_iload_n dJ6_bitCount_0f7a4_42 rfl ?_
  refine w_bipush (v := 16) dJ6_bitCount_0f7a4_43 (by decide) ?_
  refine w_iushr dJ6_bitCount_0f7a4_45 ?_
  refine w_iadd dJ6_bitCount_0f7a4_46 ?_
  refine w_istore_0 dJ6_bitCount_0f7a4_47 (Nat.le_of_ble_eq_true rfl) ?_
  refine w_leq (L2 := [some (.int (bc5 (bc4 (bc3 (bc2 (bc1 x))))))]) rfl ?_
  refine w_iload_n dJ6_bitCount_0f7a4_48 rfl ?_
  refine w_bipush (v := 63) dJ6_bitCount_0f7a4_49 (by decide) ?_
  refine w_iand dJ6_bitCount_0f7a4_51 ?_
  exact w_iret dJ6_bitCount_0f7a4_52 rfl rfl rfl rfl (Nat.le_refl 0)

set_option maxRecDepth 100000 in
set_option maxHeartbeats 4000000 in
theorem pm_X7_in {l : Launch} {D : va_G} {h : PH} {x a b : Int32} : PM l D YX7_in 1 [.int x, .int a, .int b] h 0 0 (some (.int (b2i (sIn x a b)))) h := by
  refine pm_of2 (n0 := h.length) kb_YX7_in rfl [some (.int x), some (.int a), some (.int b)] (fun _ => rfl) (fun _ => (Nat.le_of_ble_eq_true rfl)) ?_
  refine w_iload_n dX7_in_0 rfl ?_
  refine w_iload_n dX7_in_1 rfl ?_
  refine w_ticmp_lt (a := ?a2_1) (b := ?b2_1) (pJ := 15) (tgt := 14) dX7_in_2 (by decide) (fun c_2 k => ?hA2_1) (fun c_2 k => ?hB2_1) ?hk2_1
  case hA2_1 =>
    refine w_iconst (v := 0) dX7_in_14 (by decide) ?_
    exact k
  case hB2_1 =>
    refine w_iload_n dX7_in_5 rfl ?_
    refine w_iload_n dX7_in_6 rfl ?_
    refine w_ticmp_gt (a := ?a7_2) (b := ?b7_2) (pJ := 15) (tgt := 14) dX7_in_7 (by decide) (fun c_7 k => ?hA7_2) (fun c_7 k => ?hB7_2) ?hk7_2
    case hA7_2 =>
      refine w_iconst (v := 0) dX7_in_14 (by decide) ?_
      exact k
    case hB7_2 =>
      refine w_iconst (v := 1) dX7_in_10 (by decide) ?_
      refine w_goto (tgt := 15) dX7_in_11 (by decide) ?_
      exact k
    exact k
  exact w_zretb dX7_in_15 rfl (by simp only [b2i, sIn, sSoul, sBox, sBit, Bool.and_eq_true, decide_eq_true_eq, ← Int32.not_lt] <;> repeat (split <;> simp_all)) rfl rfl (Nat.le_refl 0)

set_option maxRecDepth 100000 in
set_option maxHeartbeats 4000000 in
theorem pm_X7_has {l : Launch} {D : va_G} {h : PH} {x y : Int32} : PM l D YX7_has 1 [.int x, .int y] h 0 0 (some (.int (b2i (sBit x y)))) h := by
  refine pm_of2 (n0 := h.length) kb_YX7_has rfl [some (.int x), some (.int y)] (fun _ => rfl) (fun _ => (Nat.le_of_ble_eq_true rfl)) ?_
  refine w_iload_n dX7_has_0 rfl ?_
  refine w_iload_n dX7_has_1 rfl ?_
  refine w_ishr dX7_has_2 ?_
  refine w_iconst (v := 1) dX7_has_3 (by decide) ?_
  refine w_iand dX7_has_4 ?_
  refine w_iconst (v := 1) dX7_has_5 (by decide) ?_
  refine w_ticmp_ne (a := ?a6_1) (b := ?b6_1) (pJ := 14) (tgt := 13) dX7_has_6 (by decide) (fun c_6 k => ?hA6_1) (fun c_6 k => ?hB6_1) ?hk6_1
  case hA6_1 =>
    refine w_iconst (v := 0) dX7_has_13 (by decide) ?_
    exact k
  case hB6_1 =>
    refine w_iconst (v := 1) dX7_has_9 (by decide) ?_
    refine w_goto (tgt := 14) dX7_has_10 (by decide) ?_
    exact k
  exact w_zretb dX7_has_14 rfl (by simp only [b2i, sIn, sSoul, sBox, sBit, Bool.and_eq_true, decide_eq_true_eq, ← Int32.not_lt] <;> repeat (split <;> simp_all)) rfl rfl (Nat.le_refl 0)

