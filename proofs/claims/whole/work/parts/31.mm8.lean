def fRy (N : WS) (s x y : Nat) (f : Int32) : Int32 := if (decide (x = s) || sBit f (nI x)) && decide (0 < wde N (sDeb (nI x) (nI y)).toNatClampNeg) then f ||| (1 <<< (nI y &&& 31)) else f
def fRx (N : WS) (s x : Nat) (f : Int32) : Int32 := iter (fRy N s x) 8 f
def fRi (N : WS) (s : Nat) (_ : Nat) (f : Int32) : Int32 := iter (fRx N s) 8 f
def mFar (N : WS) (s : Nat) : Int32 := iter (fRi N s) 8 0
def mRing (N : WS) : Int32 := bitsOf (fun s => sBit (mFar N s) (nI s)) 8
theorem ry_eq {f g : Int32} {P Q : Prop} [Decidable P] [Decidable Q] {b : Bool} : (f ||| (if (if P then (1 : Int32) else bif b then 1 else 0) = 0 then 0 else if Q then 0 else g)) = if (decide P || b) && !decide Q then f ||| g else f := by
  by_cases hP : P <;> by_cases hQ : Q <;> cases b <;> simp [hP, hQ, or_0]
set_option maxRecDepth 100000 in
set_option maxHeartbeats 1000000 in
theorem pm_X7_rings {l : Launch} {D : va_G} {h : PH} {M : MS} (hb : 38 < h.length) {N : WS} (hR : RB N (mbk M)) : PM l D YX7_rings 2 [.ref 28] (mput h M) 0 0 (some (.int (mRing N))) (mput h M) := by
  refine pm_of2 (n0 := h.length) kb_YX7_rings (mlen hb) [some (.ref 28), none, none, none, none, none, none, none] (fun _ => rfl) (fun _ => (Nat.le_of_ble_eq_true rfl)) ?_
  have inY : ∀ (s x : Nat) (a f i : Int32), s < 8 → x < 8 → (∀ o1 o2, Wp l D YX7_rings (pRm 2 0 0) h.length (fun _ _ _ => True) (mE D h.length 0 0 (some (.int (mRing N))) (mput h M)) 105 [some (.ref 28), some (.int a), some (.int (nI s)), some (.int (fRx N s x f)), some (.int i), some (.int (nI x)), o1, o2] [] (mput h M) 0) → ∀ (k y : Nat), y + k = 8 → ∀ o, Wp l D YX7_rings (pRm 2 0 0) h.length (fun _ _ _ => True) (mE D h.length 0 0 (some (.int (mRing N))) (mput h M)) 35 [some (.ref 28), some (.int a), some (.int (nI s)), some (.int (iter (fRy N s x) y f)), some (.int i), some (.int (nI x)), some (.int (nI y)), o] [] (mput h M) 0 := by
    intro s x a f i hs hx out k
    induction k with
    | zero =>
      intro y hy o
      have hy : y = 8 := by omega
      subst hy
      refine w_iload dX7_rings_35 rfl ?_
      refine w_bipush (v := 8) dX7_rings_37 (by decide) ?_
      refine w_icmp_ge_t (tgt := 105) dX7_rings_39 (by decide) (Int32.le_refl _) ?_
      exact out _ _
    | succ k ih =>
      intro y hy o
      have eF := iter_s (fRy N s x) y f
      rw [fRy] at eF
      generalize iter (fRy N s x) y f = g at eF ⊢
      have hxs : (x = s) = (nI x = nI s) := propext (nI_eq (by omega) (by omega)).symm
      have hle : (0 < wde N (sDeb (nI x) (nI y)).toNatClampNeg) = ¬ (wde N (sDeb (nI x) (nI y)).toNatClampNeg ≤ 0) := propext Int32.not_le.symm
      rw [decide_eq_decide.mpr (Iff.of_eq hxs), decide_eq_decide.mpr (Iff.of_eq hle), decide_not] at eF
      refine w_iload dX7_rings_35 rfl ?_
      refine w_bipush (v := 8) dX7_rings_37 (by decide) ?_
      refine w_icmp_ge_f dX7_rings_39 ⟨105, by decide⟩ (lp_g hy (by decide) rfl) ?_
      refine w_iload dX7_rings_42 rfl ?_
      refine w_iload_n dX7_rings_44 rfl ?_
      refine w_ticmp_eq (a := ?a45_1) (b := ?b45_1) (pJ := 62) (tgt := 57) dX7_rings_45 (by decide) (fun c_45 k => ?hA45_1) (fun c_45 k => ?hB45_1) ?hk45_1
      case hA45_1 =>
        refine w_iconst (v := 1) dX7_rings_57 (by decide) ?_
        refine w_goto (tgt := 62) dX7_rings_58 (by decide) ?_
        exact k
      case hB45_1 =>
        refine w_iload_n dX7_rings_48 rfl ?_
        refine w_iload dX7_rings_49 rfl ?_
        refine w_callSr dX7_rings_51 k_X7_49 (pm_X7_has) rfl rfl (Nat.le_of_ble_eq_true rfl) (Nat.le_of_ble_eq_true rfl) (Nat.le_of_ble_eq_true rfl) (rc00 (mlen hb) (Nat.le_refl 0)) ?_
        refine w_ztif_eq (a := ?a54_2) (b := ?b54_2) (pJ := 62) (tgt := 61) dX7_rings_54 (by decide) (fun c_54 k => ?hA54_2) (fun c_54 k => ?hB54_2) ?hk54_2
        case hA54_2 =>
          refine w_iconst (v := 0) dX7_rings_61 (by decide) ?_
          exact k
        case hB54_2 =>
          refine w_iconst (v := 1) dX7_rings_57 (by decide) ?_
          refine w_goto (tgt := 62) dX7_rings_58 (by decide) ?_
          exact k
        exact k
      refine w_istore_7 dX7_rings_62 (Nat.le_of_ble_eq_true rfl) rfl ?_
      refine w_iload_n dX7_rings_64 rfl ?_
      refine w_iload dX7_rings_65 rfl ?_
      refine w_tif_eq (a := ?a67_3) (b := ?b67_3) (pJ := 97) (tgt := 96) dX7_rings_67 (by decide) (fun c_67 k => ?hA67_3) (fun c_67 k => ?hB67_3) ?hk67_3
      case hA67_3 =>
        refine w_iconst (v := 0) dX7_rings_96 (by decide) ?_
        exact k
      case hB67_3 =>
        refine w_aload_n dX7_rings_70 rfl ?_
        refine w_get dX7_rings_71 f_X7_7 (mg0 hb) rfl ?_
        refine w_bipush (v := 24) dX7_rings_74 (by decide) ?_
        refine w_bipush (v := 8) dX7_rings_76 (by decide) ?_
        refine w_iload dX7_rings_78 rfl ?_
        refine w_imul dX7_rings_80 ?_
        refine w_iadd dX7_rings_81 ?_
        refine w_iload dX7_rings_82 rfl ?_
        refine w_iadd dX7_rings_84 ?_
        refine w_ialdN (k := ((24 + (8 * x)) + y)) dX7_rings_85 (mg_bk hb) (nadd (nadd rfl (nmul rfl rfl)) rfl) (by omega) (kk := ?_)
        rw [hR.de hx (show y < 8 by omega)]
        refine w_tif_le (a := ?a86_4) (b := ?b86_4) (pJ := 97) (tgt := 96) dX7_rings_86 (by decide) (fun c_86 k => ?hA86_4) (fun c_86 k => ?hB86_4) ?hk86_4
        case hA86_4 =>
          refine w_iconst (v := 0) dX7_rings_96 (by decide) ?_
          exact k
        case hB86_4 =>
          refine w_iconst (v := 1) dX7_rings_89 (by decide) ?_
          refine w_iload dX7_rings_90 rfl ?_
          refine w_ishl dX7_rings_92 ?_
          refine w_goto (tgt := 97) dX7_rings_93 (by decide) ?_
          exact k
        exact k
      refine w_ior dX7_rings_97 ?_
      refine w_istore_3 dX7_rings_98 (Nat.le_of_ble_eq_true rfl) rfl ?_
      refine w_iinc_6 (v := 1) dX7_rings_99 (by decide) (Nat.le_of_ble_eq_true rfl) rfl ?_
      refine w_goto (tgt := 35) dX7_rings_102 (by decide) ?_
      refine w_loc_6 (nI_1 y) (w_loc_3 ?_ (ih (y + 1) (by omega) _))
      rw [eF]
      exact ry_eq
  have inX : ∀ (s : Nat) (a f i : Int32), s < 8 → (∀ o1 o2 o3, Wp l D YX7_rings (pRm 2 0 0) h.length (fun _ _ _ => True) (mE D h.length 0 0 (some (.int (mRing N))) (mput h M)) 111 [some (.ref 28), some (.int a), some (.int (nI s)), some (.int (iter (fRx N s) 8 f)), some (.int i), o1, o2, o3] [] (mput h M) 0) → ∀ (k x : Nat), x + k = 8 → ∀ o1 o2, Wp l D YX7_rings (pRm 2 0 0) h.length (fun _ _ _ => True) (mE D h.length 0 0 (some (.int (mRing N))) (mput h M)) 25 [some (.ref 28), some (.int a), some (.int (nI s)), some (.int (iter (fRx N s) x f)), some (.int i), some (.int (nI x)), o1, o2] [] (mput h M) 0 := by
    intro s a f i hs out k
    induction k with
    | zero =>
      intro x hx o1 o2
      have hx : x = 8 := by omega
      subst hx
      refine w_iload dX7_rings_25 rfl ?_
      refine w_bipush (v := 8) dX7_rings_27 (by decide) ?_
      refine w_icmp_ge_t (tgt := 111) dX7_rings_29 (by decide) (Int32.le_refl _) ?_
      exact out _ _ _
    | succ k ih =>
      intro x hx o1 o2
      have eF := iter_s (fRx N s) x f
      generalize iter (fRx N s) x f = g at eF ⊢
      refine w_iload dX7_rings_25 rfl ?_
      refine w_bipush (v := 8) dX7_rings_27 (by decide) ?_
      refine w_icmp_ge_f dX7_rings_29 ⟨111, by decide⟩ (lp_g hx (by decide) rfl) ?_
      refine w_iconst (v := 0) dX7_rings_32 (by decide) ?_
      refine w_istore_6 dX7_rings_33 (Nat.le_of_ble_eq_true rfl) rfl ?_
      refine w_loc_3 (iter_0 (fRy N s x) g) (inY s x a g i hs (by omega) (fun o1 o2 => ?_) 8 0 rfl _)
      rw [← eF]
      refine w_iinc_5 (v := 1) dX7_rings_105 (by decide) (Nat.le_of_ble_eq_true rfl) rfl ?_
      refine w_goto (tgt := 25) dX7_rings_108 (by decide) ?_
      exact w_loc_5 (nI_1 x) (ih (x + 1) (by omega) _ _)
  have inI : ∀ (s : Nat) (a : Int32), s < 8 → (∀ o1 o2 o3 o4, Wp l D YX7_rings (pRm 2 0 0) h.length (fun _ _ _ => True) (mE D h.length 0 0 (some (.int (mRing N))) (mput h M)) 117 [some (.ref 28), some (.int a), some (.int (nI s)), some (.int (mFar N s)), o1, o2, o3, o4] [] (mput h M) 0) → ∀ (k i : Nat), i + k = 8 → ∀ o1 o2 o3, Wp l D YX7_rings (pRm 2 0 0) h.length (fun _ _ _ => True) (mE D h.length 0 0 (some (.int (mRing N))) (mput h M)) 15 [some (.ref 28), some (.int a), some (.int (nI s)), some (.int (iter (fRi N s) i 0)), some (.int (nI i)), o1, o2, o3] [] (mput h M) 0 := by
    intro s a hs out k
    induction k with
    | zero =>
      intro i hi o1 o2 o3
      have hi : i = 8 := by omega
      subst hi
      refine w_iload dX7_rings_15 rfl ?_
      refine w_bipush (v := 8) dX7_rings_17 (by decide) ?_
      refine w_icmp_ge_t (tgt := 117) dX7_rings_19 (by decide) (Int32.le_refl _) ?_
      exact out _ _ _ _
    | succ k ih =>
      intro i hi o1 o2 o3
      have eF := iter_s (fRi N s) i 0
      rw [fRi] at eF
      generalize iter (fRi N s) i 0 = g at eF ⊢
      refine w_iload dX7_rings_15 rfl ?_
      refine w_bipush (v := 8) dX7_rings_17 (by decide) ?_
      refine w_icmp_ge_f dX7_rings_19 ⟨117, by decide⟩ (lp_g hi (by decide) rfl) ?_
      refine w_iconst (v := 0) dX7_rings_22 (by decide) ?_
      refine w_istore_5 dX7_rings_23 (Nat.le_of_ble_eq_true rfl) rfl ?_
      refine w_loc_3 (iter_0 (fRx N s) g) (inX s a g (nI i) hs (fun o1 o2 o3 => ?_) 8 0 rfl _ _)
      rw [← eF]
      refine w_iinc_4 (v := 1) dX7_rings_111 (by decide) (Nat.le_of_ble_eq_true rfl) rfl ?_
      refine w_goto (tgt := 15) dX7_rings_114 (by decide) ?_
      exact w_loc_4 (nI_1 i) (ih (i + 1) (by omega) _ _ _)
  have loop : ∀ (k s : Nat), s + k = 8 → ∀ o1 o2 o3 o4 o5, Wp l D YX7_rings (pRm 2 0 0) h.length (fun _ _ _ => True) (mE D h.length 0 0 (some (.int (mRing N))) (mput h M)) 4 [some (.ref 28), some (.int (iter (fOr (fun s => sBit (mFar N s) (nI s))) s 0)), some (.int (nI s)), o1, o2, o3, o4, o5] [] (mput h M) 0 := by
    intro k
    induction k with
    | zero =>
      intro s hs o1 o2 o3 o4 o5
      have hs : s = 8 := by omega
      subst hs
      refine w_iload_n dX7_rings_4 rfl ?_
      refine w_bipush (v := 8) dX7_rings_5 (by decide) ?_
      refine w_icmp_ge_t (tgt := 141) dX7_rings_7 (by decide) (Int32.le_refl _) ?_
      refine w_iload_n dX7_rings_141 rfl ?_
      exact w_iret dX7_rings_142 rfl (by rw [mRing, bitsOf]) rfl (mlen hb) (Nat.le_refl 0)
    | succ k ih =>
      intro s hs o1 o2 o3 o4 o5
      have eF := iter_s (fOr (fun s => sBit (mFar N s) (nI s))) s 0
      rw [← fOr_bif] at eF
      generalize (iter (fOr (fun s => sBit (mFar N s) (nI s))) s 0) = a at eF ⊢
      refine w_iload_n dX7_rings_4 rfl ?_
      refine w_bipush (v := 8) dX7_rings_5 (by decide) ?_
      refine w_icmp_ge_f dX7_rings_7 ⟨141, by decide⟩ (lp_g hs (by decide) rfl) ?_
      refine w_iconst (v := 0) dX7_rings_10 (by decide) ?_
      refine w_istore_3 dX7_rings_11 (Nat.le_of_ble_eq_true rfl) rfl ?_
      refine w_iconst (v := 0) dX7_rings_12 (by decide) ?_
      refine w_istore_4 dX7_rings_13 (Nat.le_of_ble_eq_true rfl) rfl ?_
      refine w_loc_3 (iter_0 (fRi N s) 0) (inI s a (by omega) (fun o1 o2 o3 o4 => ?_) 8 0 rfl _ _ _)
      refine w_iload_n dX7_rings_117 rfl ?_
      refine w_iload_n dX7_rings_118 rfl ?_
      refine w_iload_n dX7_rings_119 rfl ?_
      refine w_callSr dX7_rings_120 k_X7_49 (pm_X7_has) rfl rfl (Nat.le_of_ble_eq_true rfl) (Nat.le_of_ble_eq_true rfl) (Nat.le_of_ble_eq_true rfl) (rc00 (mlen hb) (Nat.le_refl 0)) ?_
      refine w_ztif_eq (a := ?a123_5) (b := ?b123_5) (pJ := 133) (tgt := 132) dX7_rings_123 (by decide) (fun c_123 k => ?hA123_5) (fun c_123 k => ?hB123_5) ?hk123_5
      case hA123_5 =>
        refine w_iconst (v := 0) dX7_rings_132 (by decide) ?_
        exact k
      case hB123_5 =>
        refine w_iconst (v := 1) dX7_rings_126 (by decide) ?_
        refine w_iload_n dX7_rings_127 rfl ?_
        refine w_ishl dX7_rings_128 ?_
        refine w_goto (tgt := 133) dX7_rings_129 (by decide) ?_
        exact k
      refine w_ior dX7_rings_133 ?_
      refine w_istore_1 dX7_rings_134 (Nat.le_of_ble_eq_true rfl) rfl ?_
      refine w_iinc_2 (v := 1) dX7_rings_135 (by decide) (Nat.le_of_ble_eq_true rfl) rfl ?_
      refine w_goto (tgt := 4) dX7_rings_138 (by decide) ?_
      refine w_loc_2 (nI_1 s) (w_loc_1 eF.symm (ih (s + 1) (by omega) _ _ _ _ _))
  refine w_iconst (v := 0) dX7_rings_0 (by decide) ?_
  refine w_istore_1 dX7_rings_1 (Nat.le_of_ble_eq_true rfl) rfl ?_
  refine w_iconst (v := 0) dX7_rings_2 (by decide) ?_
  refine w_istore_2 dX7_rings_3 (Nat.le_of_ble_eq_true rfl) rfl ?_
  exact loop 8 0 rfl _ _ _ _ _

def asN (b f : Nat → Int32) (k : Nat) : Nat → Int32 := iter (fun k f => upd f k (b k)) k f
theorem asN_at (b f : Nat → Int32) : ∀ k j, j < k → asN b f k j = b j
  | 0, j, h => absurd h (by omega)
  | k + 1, j, h => by
    show upd (asN b f k) k (b k) j = b j
    by_cases hj : j = k
    · subst hj; exact pk_us
    · rw [pk_un hj]; exact asN_at b f k j (by omega)
def mNow (M : MS) : MS := tot (ton (tnw M (asN (mbk M) (mnw M) 96)) 0) (-6)
set_option maxRecDepth 100000 in
set_option maxHeartbeats 1000000 in
theorem pm_X7_asNow {l : Launch} {D : va_G} {h : PH} {M : MS} (hb : 38 < h.length) : PM l D YX7_asNow 1 [.ref 28] (mput h M) 0 0 none (mput h (mNow M)) := by
  refine pm_of2 (n0 := h.length) kb_YX7_asNow (mlen hb) [some (.ref 28), none] (fun _ => rfl) (fun _ => (Nat.le_of_ble_eq_true rfl)) ?_
  have loop : ∀ (k i : Nat), i + k = 96 → Wp l D YX7_asNow (pRm 1 0 0) h.length (fun _ _ _ => True) (mE D h.length 0 0 none (mput h (mNow M))) 2 [some (.ref 28), some (.int (nI i))] [] (mput h (tnw M (asN (mbk M) (mnw M) i))) 0 := by
    intro k
    induction k with
    | zero =>
      intro i hi
      have hi : i = 96 := by omega
      subst hi
      refine w_iload_n dX7_asNow_2 rfl ?_
      refine w_bipush (v := 96) dX7_asNow_3 (by decide) ?_
      refine w_icmp_ge_t (tgt := 26) dX7_asNow_5 (by decide) (Int32.le_refl _) ?_
      refine w_aload_n dX7_asNow_26 rfl ?_
      refine w_iconst (v := 0) dX7_asNow_27 (by decide) ?_
      refine w_pM8 dX7_asNow_28 f_X7_71 hb ?_
      refine w_aload_n dX7_asNow_31 rfl ?_
      refine w_bipush (v := (-6)) dX7_asNow_32 (by decide) ?_
      refine w_pM9 dX7_asNow_34 f_X7_74 hb ?_
      exact w_vret dX7_asNow_37 rfl rfl (mlen hb) (Nat.le_refl 0)
    | succ k ih =>
      intro i hi
      refine w_iload_n dX7_asNow_2 rfl ?_
      refine w_bipush (v := 96) dX7_asNow_3 (by decide) ?_
      refine w_icmp_ge_f dX7_asNow_5 ⟨26, by decide⟩ (lp_g hi (by decide) rfl) ?_
      refine w_aload_n dX7_asNow_8 rfl ?_
      refine w_get dX7_asNow_9 f_X7_13 (mg0 hb) rfl ?_
      refine w_iload_n dX7_asNow_12 rfl ?_
      refine w_aload_n dX7_asNow_13 rfl ?_
      refine w_get dX7_asNow_14 f_X7_7 (mg0 hb) rfl ?_
      refine w_iload_n dX7_asNow_17 rfl ?_
      refine w_ialdN (k := i) dX7_asNow_18 (mg_bk hb) rfl (by omega) (kk := ?_)
      refine w_aMn_nw (k := i) dX7_asNow_19 hb rfl (by omega) ?_
      refine w_iinc_1 (v := 1) dX7_asNow_20 (by decide) (Nat.le_of_ble_eq_true rfl) rfl ?_
      refine w_goto (tgt := 2) dX7_asNow_23 (by decide) ?_
      exact w_loc_1 (nI_1 i) (ih (i + 1) (by omega))
  refine w_iconst (v := 0) dX7_asNow_0 (by decide) ?_
  refine w_istore_1 dX7_asNow_1 (Nat.le_of_ble_eq_true rfl) rfl ?_
  exact loop 96 0 rfl

def aGet (b : Nat → Int32) (i : Nat) (k : Int32) : Nat → Int32 := upd b (8 + i) (if b (8 + i) + k ≤ 999 then b (8 + i) + k else 999)
def aTry (b : Nat → Int32) (i x : Nat) : Nat → Int32 := upd (aGet b i (b (88 + x))) (88 + x) 0
def aOpn (N : WS) (b : Nat → Int32) (i x : Nat) : Bool := decide (whi N x ≤ mb (b i &&& wwn N x))
def mTryM (N : WS) (M : MS) (i x : Nat) : MS := if sBit (mnw M 94) (nI i) then (if aOpn N (mnw M) i x then tnw (ton (tio M 0) (mon M + 1)) (aTry (mnw M) i x) else tio M 1) else M
def aDi0 (b : Nat → Int32) (i j : Nat) : Nat → Int32 := upd b 94 ((b 94 &&& (((1 : Int32) <<< (nI i &&& 31)) ^^^ (-1))) ||| ((1 : Int32) <<< (nI j &&& 31)))
def aDi1 (b : Nat → Int32) (i j : Nat) : Nat → Int32 := upd (aDi0 b i j) j (aDi0 b i j i &&& (aDi0 b i j i - 1))
def aDa (b : Nat → Int32) (i j : Nat) : Nat → Int32 := upd (aDi1 b i j) (8 + j) (aDi1 b i j (8 + i) / 2)
def aDb (b : Nat → Int32) (i j : Nat) : Nat → Int32 := upd (aDa b i j) (16 + j) (nI i)
def aDc (b : Nat → Int32) (i j : Nat) : Nat → Int32 := upd (aDb b i j) i 0
def aDi2 (b : Nat → Int32) (i j : Nat) : Nat → Int32 := upd (aDc b i j) (8 + i) 0
def aMv (i j x : Nat) (f : Nat → Int32) : Nat → Int32 := upd (upd (upd (upd f (24 + 8 * i + x) 0) (24 + 8 * x + i) 0) (24 + 8 * j + x) (f (24 + 8 * i + x))) (24 + 8 * x + j) (f (24 + 8 * x + i))
def aDie (b : Nat → Int32) (i j : Nat) : Nat → Int32 := iter (aMv i j) 8 (aDi2 b i j)
def rDie (b : Nat → Int32) (i j : Nat) : Int32 := if sBit (b 94) (nI i) then (if i = j then 2 else if sBit (b 94) (nI j) then 3 else 0) else 1
def mDieM (M : MS) (i j : Nat) : MS := if rDie (mnw M) i j = 0 then tnw M (aDie (mnw M) i j) else M
def aLn1 (b : Nat → Int32) (i j : Nat) (k : Int32) : Nat → Int32 := upd b (24 + 8 * j + i) (b (24 + 8 * j + i) + k)
def aLen (b : Nat → Int32) (i j : Nat) (k : Int32) : Nat → Int32 := aGet (upd (aLn1 b i j k) (8 + i) (aLn1 b i j k (8 + i) - k)) j k
def rLen (b : Nat → Int32) (i j : Nat) (k : Int32) : Int32 := if sBit (b 94) (nI i) then (if i = j then 2 else if sBit (b 94) (nI j) then (if b (8 + i) < k then 4 else if b (24 + 8 * j + i) + k ≤ 999 then 0 else 4) else 3) else 1
def mLenM (M : MS) (i j : Nat) (k : Int32) : MS := if rLen (mnw M) i j k = 0 then tnw M (aLen (mnw M) i j k) else M
def rEnd (b : Nat → Int32) : Int32 := if b 95 = 99 then 5 else 0
def mEndM (M : MS) : MS := if mnw M 95 = 99 then M else tnw M (upd (mnw M) 95 (mnw M 95 + 1))
set_option maxRecDepth 100000 in
set_option maxHeartbeats 1000000 in
theorem pm_X7_gets {l : Launch} {D : va_G} {h : PH} {M : MS} (hb : 38 < h.length) {i : Nat} {k : Int32} (hi : i < 8) : PM l D YX7_gets 1 [.ref 28, .int (nI i), .int k] (mput h M) 0 0 none (mput h (tnw M (aGet (mnw M) i k))) := by
  refine pm_of2 (n0 := h.length) kb_YX7_gets (mlen hb) [some (.ref 28), some (.int (nI i)), some (.int k)] (fun _ => rfl) (fun _ => (Nat.le_of_ble_eq_true rfl)) ?_
  by_cases h9 : mnw M (8 + i) + k ≤ 999
  · skip
    refine w_aload_n dX7_gets_0 rfl ?_
    refine w_get dX7_gets_1 f_X7_13 (mg0 hb) rfl ?_
    refine w_bipush (v := 8) dX7_gets_4 (by decide) ?_
    refine w_iload_n dX7_gets_6 rfl ?_
    refine w_iadd dX7_gets_7 ?_
    refine w_aload_n dX7_gets_8 rfl ?_
    refine w_get dX7_gets_9 f_X7_13 (mg0 hb) rfl ?_
    refine w_bipush (v := 8) dX7_gets_12 (by decide) ?_
    refine w_iload_n dX7_gets_14 rfl ?_
    refine w_iadd dX7_gets_15 ?_
    refine w_ialdN (k := (8 + i)) dX7_gets_16 (mg_nw hb) (nadd rfl rfl) (by omega) (kk := ?_)
    refine w_iload_n dX7_gets_17 rfl ?_
    refine w_iadd dX7_gets_18 ?_
    refine w_sipush (v := 999) dX7_gets_19 (by decide) ?_
    refine w_icmp_le_t (tgt := 31) dX7_gets_22 (by decide) h9 ?_
    refine w_aload_n dX7_gets_31 rfl ?_
    refine w_get dX7_gets_32 f_X7_13 (mg0 hb) rfl ?_
    refine w_bipush (v := 8) dX7_gets_35 (by decide) ?_
    refine w_iload_n dX7_gets_37 rfl ?_
    refine w_iadd dX7_gets_38 ?_
    refine w_ialdN (k := (8 + i)) dX7_gets_39 (mg_nw hb) (nadd rfl rfl) (by omega) (kk := ?_)
    refine w_iload_n dX7_gets_40 rfl ?_
    refine w_iadd dX7_gets_41 ?_
    refine w_aMn_nw (k := (8 + i)) dX7_gets_42 hb (nadd rfl rfl) (by omega) ?_
    exact w_vret dX7_gets_43 rfl (by rw [aGet, if_pos h9]) (mlen hb) (Nat.le_refl 0)
  refine w_aload_n dX7_gets_0 rfl ?_
  refine w_get dX7_gets_1 f_X7_13 (mg0 hb) rfl ?_
  refine w_bipush (v := 8) dX7_gets_4 (by decide) ?_
  refine w_iload_n dX7_gets_6 rfl ?_
  refine w_iadd dX7_gets_7 ?_
  refine w_aload_n dX7_gets_8 rfl ?_
  refine w_get dX7_gets_9 f_X7_13 (mg0 hb) rfl ?_
  refine w_bipush (v := 8) dX7_gets_12 (by decide) ?_
  refine w_iload_n dX7_gets_14 rfl ?_
  refine w_iadd dX7_gets_15 ?_
  refine w_ialdN (k := (8 + i)) dX7_gets_16 (mg_nw hb) (nadd rfl rfl) (by omega) (kk := ?_)
  refine w_iload_n dX7_gets_17 rfl ?_
  refine w_iadd dX7_gets_18 ?_
  refine w_sipush (v := 999) dX7_gets_19 (by decide) ?_
  refine w_icmp_le_f dX7_gets_22 ⟨31, by decide⟩ h9 ?_
  refine w_sipush (v := 999) dX7_gets_25 (by decide) ?_
  refine w_goto (tgt := 42) dX7_gets_28 (by decide) ?_
  refine w_aMn_nw (k := (8 + i)) dX7_gets_42 hb (nadd rfl rfl) (by omega) ?_
  exact w_vret dX7_gets_43 rfl (by rw [aGet, if_neg h9]) (mlen hb) (Nat.le_refl 0)

set_option maxRecDepth 100000 in
set_option maxHeartbeats 1000000 in
theorem pm_X7_tries {l : Launch} {D : va_G} {h : PH} {M : MS} (hb : 38 < h.length) {N : WS} (hW : RW N M) {i x : Nat} (hi : i < 8) (hx : x < 6) : PM l D YX7_tries 3 [.ref 28, .int (nI i), .int (nI x)] (mput h M) 0 0 (some (.int (if sBit (mnw M 94) (nI i) then 0 else 1))) (mput h (mTryM N M i x)) := by
  refine pm_of2 (n0 := h.length) kb_YX7_tries (mlen hb) [some (.ref 28), some (.int (nI i)), some (.int (nI x))] (fun _ => rfl) (fun _ => (Nat.le_of_ble_eq_true rfl)) ?_
  cases h1 : sBit (mnw M 94) (nI i) with
  | false =>
    refine w_aload_n dX7_tries_0 rfl ?_
    refine w_get dX7_tries_1 f_X7_13 (mg0 hb) rfl ?_
    refine w_bipush (v := 94) dX7_tries_4 (by decide) ?_
    refine w_ialdN (k := 94) dX7_tries_6 (mg_nw hb) rfl (by omega) (kk := ?_)
    refine w_iload_n dX7_tries_7 rfl ?_
    refine w_callSr dX7_tries_8 k_X7_49 (pm_X7_has) rfl rfl (Nat.le_of_ble_eq_true rfl) (Nat.le_of_ble_eq_true rfl) (Nat.le_of_ble_eq_true rfl) (rc00 (mlen hb) (Nat.le_refl 0)) ?_
    refine w_zif_ne_f dX7_tries_11 ⟨16, by decide⟩ h1 ?_
    refine w_iconst (v := 1) dX7_tries_14 (by decide) ?_
    exact w_iret dX7_tries_15 rfl rfl (by rw [mTryM, h1]; rfl) (mlen hb) (Nat.le_refl 0)
  | true =>
    cases h2 : aOpn N (mnw M) i x with
    | false =>
      refine w_aload_n dX7_tries_0 rfl ?_
      refine w_get dX7_tries_1 f_X7_13 (mg0 hb) rfl ?_
      refine w_bipush (v := 94) dX7_tries_4 (by decide) ?_
      refine w_ialdN (k := 94) dX7_tries_6 (mg_nw hb) rfl (by omega) (kk := ?_)
      refine w_iload_n dX7_tries_7 rfl ?_
      refine w_callSr dX7_tries_8 k_X7_49 (pm_X7_has) rfl rfl (Nat.le_of_ble_eq_true rfl) (Nat.le_of_ble_eq_true rfl) (Nat.le_of_ble_eq_true rfl) (rc00 (mlen hb) (Nat.le_refl 0)) ?_
      refine w_zif_ne_t (tgt := 16) dX7_tries_11 (by decide) h1 ?_
      refine w_aload_n dX7_tries_16 rfl ?_
      refine w_aload_n dX7_tries_17 rfl ?_
      refine w_iload_n dX7_tries_18 rfl ?_
      refine w_aload_n dX7_tries_19 rfl ?_
      refine w_get dX7_tries_20 f_X7_13 (mg0 hb) rfl ?_
      refine w_iload_n dX7_tries_23 rfl ?_
      refine w_ialdN (k := i) dX7_tries_24 (mg_nw hb) rfl (by omega) (kk := ?_)
      refine w_callVr dX7_tries_25 k_X7_77 (pm_X7_doesOpen hb hW (by omega)) rfl rfl (mg0 hb) rfl (Nat.le_of_ble_eq_true rfl) (Nat.le_of_ble_eq_true rfl) (Nat.le_of_ble_eq_true rfl) (rc00 (mlen hb) (Nat.le_refl 0)) ?_
      refine w_zif_ne_f dX7_tries_28 ⟨35, by decide⟩ h2 ?_
      refine w_iconst (v := 1) dX7_tries_31 (by decide) ?_
      refine w_goto (tgt := 36) dX7_tries_32 (by decide) ?_
      refine w_pM10 dX7_tries_36 f_X7_80 hb rfl rfl ?_
      refine w_aload_n dX7_tries_39 rfl ?_
      refine w_get dX7_tries_40 f_X7_80 (mg0 hb) rfl ?_
      refine w_if_ne_t (tgt := 80) dX7_tries_43 (by decide) (show ¬ (1 : Int32) = 0 by decide) ?_
      refine w_iconst (v := 0) dX7_tries_80 (by decide) ?_
      exact w_iret dX7_tries_81 rfl rfl (by rw [mTryM, h1, h2]; rfl) (mlen hb) (Nat.le_refl 0)
    | true =>
      refine w_aload_n dX7_tries_0 rfl ?_
      refine w_get dX7_tries_1 f_X7_13 (mg0 hb) rfl ?_
      refine w_bipush (v := 94) dX7_tries_4 (by decide) ?_
      refine w_ialdN (k := 94) dX7_tries_6 (mg_nw hb) rfl (by omega) (kk := ?_)
      refine w_iload_n dX7_tries_7 rfl ?_
      refine w_callSr dX7_tries_8 k_X7_49 (pm_X7_has) rfl rfl (Nat.le_of_ble_eq_true rfl) (Nat.le_of_ble_eq_true rfl) (Nat.le_of_ble_eq_true rfl) (rc00 (mlen hb) (Nat.le_refl 0)) ?_
      refine w_zif_ne_t (tgt := 16) dX7_tries_11 (by decide) h1 ?_
      refine w_aload_n dX7_tries_16 rfl ?_
      refine w_aload_n dX7_tries_17 rfl ?_
      refine w_iload_n dX7_tries_18 rfl ?_
      refine w_aload_n dX7_tries_19 rfl ?_
      refine w_get dX7_tries_20 f_X7_13 (mg0 hb) rfl ?_
      refine w_iload_n dX7_tries_23 rfl ?_
      refine w_ialdN (k := i) dX7_tries_24 (mg_nw hb) rfl (by omega) (kk := ?_)
      refine w_callVr dX7_tries_25 k_X7_77 (pm_X7_doesOpen hb hW (by omega)) rfl rfl (mg0 hb) rfl (Nat.le_of_ble_eq_true rfl) (Nat.le_of_ble_eq_true rfl) (Nat.le_of_ble_eq_true rfl) (rc00 (mlen hb) (Nat.le_refl 0)) ?_
      refine w_zif_ne_t (tgt := 35) dX7_tries_28 (by decide) h2 ?_
      refine w_iconst (v := 0) dX7_tries_35 (by decide) ?_
      refine w_pM10 dX7_tries_36 f_X7_80 hb rfl rfl ?_
      refine w_aload_n dX7_tries_39 rfl ?_
      refine w_get dX7_tries_40 f_X7_80 (mg0 hb) rfl ?_
      refine w_if_ne_f dX7_tries_43 ⟨80, by decide⟩ rfl ?_
      refine w_aload_n dX7_tries_46 rfl ?_
      refine w_dup dX7_tries_47 rfl ?_
      refine w_get dX7_tries_48 f_X7_71 (mg0 hb) rfl ?_
      refine w_iconst (v := 1) dX7_tries_51 (by decide) ?_
      refine w_iadd dX7_tries_52 ?_
      refine w_pM8 dX7_tries_53 f_X7_71 hb ?_
      refine w_aload_n dX7_tries_56 rfl ?_
      refine w_iload_n dX7_tries_57 rfl ?_
      refine w_aload_n dX7_tries_58 rfl ?_
      refine w_get dX7_tries_59 f_X7_13 (mg0 hb) rfl ?_
      refine w_bipush (v := 88) dX7_tries_62 (by decide) ?_
      refine w_iload_n dX7_tries_64 rfl ?_
      refine w_iadd dX7_tries_65 ?_
      refine w_ialdN (k := (88 + x)) dX7_tries_66 (mg_nw hb) (nadd rfl rfl) (by omega) (kk := ?_)
      refine w_callVv dX7_tries_67 k_X7_84 (pm_X7_gets hb (by omega)) rfl rfl (mg0 hb) rfl (Nat.le_of_ble_eq_true rfl) (Nat.le_of_ble_eq_true rfl) (Nat.le_of_ble_eq_true rfl) (rc00 (mlen hb) (Nat.le_refl 0)) ?_
      refine w_aload_n dX7_tries_70 rfl ?_
      refine w_get dX7_tries_71 f_X7_13 (mg0 hb) rfl ?_
      refine w_bipush (v := 88) dX7_tries_74 (by decide) ?_
      refine w_iload_n dX7_tries_76 rfl ?_
      refine w_iadd dX7_tries_77 ?_
      refine w_iconst (v := 0) dX7_tries_78 (by decide) ?_
      refine w_aMn_nw (k := (88 + x)) dX7_tries_79 hb (nadd rfl rfl) (by omega) ?_
      refine w_iconst (v := 0) dX7_tries_80 (by decide) ?_
      exact w_iret dX7_tries_81 rfl rfl (by rw [mTryM, h1, h2]; rfl) (mlen hb) (Nat.le_refl 0)

set_option maxRecDepth 100000 in
set_option maxHeartbeats 1000000 in
theorem pm_X7_dies {l : Launch} {D : va_G} {h : PH} {M : MS} (hb : 38 < h.length) {i j : Nat} (hi : i < 8) (hj : j < 8) : PM l D YX7_dies 3 [.ref 28, .int (nI i), .int (nI j)] (mput h M) 0 0 (some (.int (rDie (mnw M) i j))) (mput h (mDieM M i j)) := by
  refine pm_of2 (n0 := h.length) kb_YX7_dies (mlen hb) [some (.ref 28), some (.int (nI i)), some (.int (nI j)), none, none, none] (fun _ => rfl) (fun _ => (Nat.le_of_ble_eq_true rfl)) ?_
  cases h1 : sBit (mnw M 94) (nI i) with
  | false =>
    refine w_aload_n dX7_dies_0 rfl ?_
    refine w_get dX7_dies_1 f_X7_13 (mg0 hb) rfl ?_
    refine w_bipush (v := 94) dX7_dies_4 (by decide) ?_
    refine w_ialdN (k := 94) dX7_dies_6 (mg_nw hb) rfl (by omega) (kk := ?_)
    refine w_iload_n dX7_dies_7 rfl ?_
    refine w_callSr dX7_dies_8 k_X7_49 (pm_X7_has) rfl rfl (Nat.le_of_ble_eq_true rfl) (Nat.le_of_ble_eq_true rfl) (Nat.le_of_ble_eq_true rfl) (rc00 (mlen hb) (Nat.le_refl 0)) ?_
    refine w_zif_ne_f dX7_dies_11 ⟨16, by decide⟩ h1 ?_
    refine w_iconst (v := 1) dX7_dies_14 (by decide) ?_
    exact w_iret dX7_dies_15 rfl (by rw [rDie, h1, if_neg (by decide)]; try rfl) (by rw [mDieM, if_neg (by rw [rDie, h1, if_neg (by decide)]; decide)]) (mlen hb) (Nat.le_refl 0)
  | true =>
    by_cases h2 : i = j
    · skip
      refine w_aload_n dX7_dies_0 rfl ?_
      refine w_get dX7_dies_1 f_X7_13 (mg0 hb) rfl ?_
      refine w_bipush (v := 94) dX7_dies_4 (by decide) ?_
      refine w_ialdN (k := 94) dX7_dies_6 (mg_nw hb) rfl (by omega) (kk := ?_)
      refine w_iload_n dX7_dies_7 rfl ?_
      refine w_callSr dX7_dies_8 k_X7_49 (pm_X7_has) rfl rfl (Nat.le_of_ble_eq_true rfl) (Nat.le_of_ble_eq_true rfl) (Nat.le_of_ble_eq_true rfl) (rc00 (mlen hb) (Nat.le_refl 0)) ?_
      refine w_zif_ne_t (tgt := 16) dX7_dies_11 (by decide) h1 ?_
      refine w_iload_n dX7_dies_16 rfl ?_
      refine w_iload_n dX7_dies_17 rfl ?_
      refine w_icmp_ne_f dX7_dies_18 ⟨23, by decide⟩ (by rw [h2]) ?_
      refine w_iconst (v := 2) dX7_dies_21 (by decide) ?_
      exact w_iret dX7_dies_22 rfl (by rw [rDie, if_pos h1, if_pos h2]; try rfl) (by rw [mDieM, if_neg (by rw [rDie, if_pos h1, if_pos h2]; decide)]) (mlen hb) (Nat.le_refl 0)
    have h2n : ¬ nI i = nI j := fun z => h2 ((nI_eq (by omega) (by omega)).mp z)
    cases h3 : sBit (mnw M 94) (nI j) with
    | true =>
      refine w_aload_n dX7_dies_0 rfl ?_
      refine w_get dX7_dies_1 f_X7_13 (mg0 hb) rfl ?_
      refine w_bipush (v := 94) dX7_dies_4 (by decide) ?_
      refine w_ialdN (k := 94) dX7_dies_6 (mg_nw hb) rfl (by omega) (kk := ?_)
      refine w_iload_n dX7_dies_7 rfl ?_
      refine w_callSr dX7_dies_8 k_X7_49 (pm_X7_has) rfl rfl (Nat.le_of_ble_eq_true rfl) (Nat.le_of_ble_eq_true rfl) (Nat.le_of_ble_eq_true rfl) (rc00 (mlen hb) (Nat.le_refl 0)) ?_
      refine w_zif_ne_t (tgt := 16) dX7_dies_11 (by decide) h1 ?_
      refine w_iload_n dX7_dies_16 rfl ?_
      refine w_iload_n dX7_dies_17 rfl ?_
      refine w_icmp_ne_t (tgt := 23) dX7_dies_18 (by decide) h2n ?_
      refine w_aload_n dX7_dies_23 rfl ?_
      refine w_get dX7_dies_24 f_X7_13 (mg0 hb) rfl ?_
      refine w_bipush (v := 94) dX7_dies_27 (by decide) ?_
      refine w_ialdN (k := 94) dX7_dies_29 (mg_nw hb) rfl (by omega) (kk := ?_)
      refine w_iload_n dX7_dies_30 rfl ?_
      refine w_callSr dX7_dies_31 k_X7_49 (pm_X7_has) rfl rfl (Nat.le_of_ble_eq_true rfl) (Nat.le_of_ble_eq_true rfl) (Nat.le_of_ble_eq_true rfl) (rc00 (mlen hb) (Nat.le_refl 0)) ?_
      refine w_zif_eq_f dX7_dies_34 ⟨39, by decide⟩ h3 ?_
      refine w_iconst (v := 3) dX7_dies_37 (by decide) ?_
      exact w_iret dX7_dies_38 rfl (by rw [rDie, if_pos h1, if_neg h2, if_pos h3]; try rfl) (by rw [mDieM, if_neg (by rw [rDie, if_pos h1, if_neg h2, if_pos h3]; decide)]) (mlen hb) (Nat.le_refl 0)
    | false =>
      have hz : rDie (mnw M) i j = 0 := by rw [rDie, if_pos h1, if_neg h2, if_neg (by rw [h3]; decide)]
      have loop : ∀ (k x : Nat), x + k = 8 → ∀ o1 o2, Wp l D YX7_dies (pRm 3 0 0) h.length (fun _ _ _ => True) (mE D h.length 0 0 (some (.int (rDie (mnw M) i j))) (mput h (mDieM M i j))) 133 [some (.ref 28), some (.int (nI i)), some (.int (nI j)), some (.int (nI x)), o1, o2] [] (mput h (tnw M (iter (aMv i j) x (aDi2 (mnw M) i j)))) 0 := by
        intro k
        induction k with
        | zero =>
          intro x hx o1 o2
          have hx : x = 8 := by omega
          subst hx
          refine w_iload_n dX7_dies_133 rfl ?_
          refine w_bipush (v := 8) dX7_dies_134 (by decide) ?_
          refine w_icmp_ge_t (tgt := 239) dX7_dies_136 (by decide) (Int32.le_refl _) ?_
          refine w_iconst (v := 0) dX7_dies_239 (by decide) ?_
          exact w_iret dX7_dies_240 rfl hz.symm (by rw [mDieM, if_pos hz, aDie]) (mlen hb) (Nat.le_refl 0)
        | succ k ih =>
          intro x hx o1 o2
          refine w_iload_n dX7_dies_133 rfl ?_
          refine w_bipush (v := 8) dX7_dies_134 (by decide) ?_
          refine w_icmp_ge_f dX7_dies_136 ⟨239, by decide⟩ (lp_g hx (by decide) rfl) ?_
          refine w_aload_n dX7_dies_139 rfl ?_
          refine w_get dX7_dies_140 f_X7_13 (mg0 hb) rfl ?_
          refine w_bipush (v := 24) dX7_dies_143 (by decide) ?_
          refine w_bipush (v := 8) dX7_dies_145 (by decide) ?_
          refine w_iload_n dX7_dies_147 rfl ?_
          refine w_imul dX7_dies_148 ?_
          refine w_iadd dX7_dies_149 ?_
          refine w_iload_n dX7_dies_150 rfl ?_
          refine w_iadd dX7_dies_151 ?_
          refine w_ialdN (k := ((24 + (8 * i)) + x)) dX7_dies_152 (mg_nw hb) (nadd (nadd rfl (nmul rfl rfl)) rfl) (by omega) (kk := ?_)
          refine w_istore_4 dX7_dies_153 (Nat.le_of_ble_eq_true rfl) rfl ?_
          refine w_aload_n dX7_dies_155 rfl ?_
          refine w_get dX7_dies_156 f_X7_13 (mg0 hb) rfl ?_
          refine w_bipush (v := 24) dX7_dies_159 (by decide) ?_
          refine w_bipush (v := 8) dX7_dies_161 (by decide) ?_
          refine w_iload_n dX7_dies_163 rfl ?_
          refine w_imul dX7_dies_164 ?_
          refine w_iadd dX7_dies_165 ?_
          refine w_iload_n dX7_dies_166 rfl ?_
          refine w_iadd dX7_dies_167 ?_
          refine w_ialdN (k := ((24 + (8 * x)) + i)) dX7_dies_168 (mg_nw hb) (nadd (nadd rfl (nmul rfl rfl)) rfl) (by omega) (kk := ?_)
          refine w_istore_5 dX7_dies_169 (Nat.le_of_ble_eq_true rfl) rfl ?_
          refine w_aload_n dX7_dies_171 rfl ?_
          refine w_get dX7_dies_172 f_X7_13 (mg0 hb) rfl ?_
          refine w_bipush (v := 24) dX7_dies_175 (by decide) ?_
          refine w_bipush (v := 8) dX7_dies_177 (by decide) ?_
          refine w_iload_n dX7_dies_179 rfl ?_
          refine w_imul dX7_dies_180 ?_
          refine w_iadd dX7_dies_181 ?_
          refine w_iload_n dX7_dies_182 rfl ?_
          refine w_iadd dX7_dies_183 ?_
          refine w_iconst (v := 0) dX7_dies_184 (by decide) ?_
          refine w_aMn_nw (k := ((24 + (8 * i)) + x)) dX7_dies_185 hb (nadd (nadd rfl (nmul rfl rfl)) rfl) (by omega) ?_
          refine w_aload_n dX7_dies_186 rfl ?_
          refine w_get dX7_dies_187 f_X7_13 (mg0 hb) rfl ?_
          refine w_bipush (v := 24) dX7_dies_190 (by decide) ?_
          refine w_bipush (v := 8) dX7_dies_192 (by decide) ?_
          refine w_iload_n dX7_dies_194 rfl ?_
          refine w_imul dX7_dies_195 ?_
          refine w_iadd dX7_dies_196 ?_
          refine w_iload_n dX7_dies_197 rfl ?_
          refine w_iadd dX7_dies_198 ?_
          refine w_iconst (v := 0) dX7_dies_199 (by decide) ?_
          refine w_aMn_nw (k := ((24 + (8 * x)) + i)) dX7_dies_200 hb (nadd (nadd rfl (nmul rfl rfl)) rfl) (by omega) ?_
          refine w_aload_n dX7_dies_201 rfl ?_
          refine w_get dX7_dies_202 f_X7_13 (mg0 hb) rfl ?_
          refine w_bipush (v := 24) dX7_dies_205 (by decide) ?_
          refine w_bipush (v := 8) dX7_dies_207 (by decide) ?_
          refine w_iload_n dX7_dies_209 rfl ?_
          refine w_imul dX7_dies_210 ?_
          refine w_iadd dX7_dies_211 ?_
          refine w_iload_n dX7_dies_212 rfl ?_
          refine w_iadd dX7_dies_213 ?_
          refine w_iload dX7_dies_214 rfl ?_
          refine w_aMn_nw (k := ((24 + (8 * j)) + x)) dX7_dies_216 hb (nadd (nadd rfl (nmul rfl rfl)) rfl) (by omega) ?_
          refine w_aload_n dX7_dies_217 rfl ?_
          refine w_get dX7_dies_218 f_X7_13 (mg0 hb) rfl ?_
          refine w_bipush (v := 24) dX7_dies_221 (by decide) ?_
          refine w_bipush (v := 8) dX7_dies_223 (by decide) ?_
          refine w_iload_n dX7_dies_225 rfl ?_
          refine w_imul dX7_dies_226 ?_
          refine w_iadd dX7_dies_227 ?_
          refine w_iload_n dX7_dies_228 rfl ?_
          refine w_iadd dX7_dies_229 ?_
          refine w_iload dX7_dies_230 rfl ?_
          refine w_aMn_nw (k := ((24 + (8 * x)) + j)) dX7_dies_232 hb (nadd (nadd rfl (nmul rfl rfl)) rfl) (by omega) ?_
          refine w_iinc_3 (v := 1) dX7_dies_233 (by decide) (Nat.le_of_ble_eq_true rfl) rfl ?_
          refine w_goto (tgt := 133) dX7_dies_236 (by decide) ?_
          refine w_loc_3 (nI_1 x) ?_
          have q9 := ih (x + 1) (by omega)
          rw [iter_s, aMv] at q9
          exact q9 _ _
      refine w_aload_n dX7_dies_0 rfl ?_
      refine w_get dX7_dies_1 f_X7_13 (mg0 hb) rfl ?_
      refine w_bipush (v := 94) dX7_dies_4 (by decide) ?_
      refine w_ialdN (k := 94) dX7_dies_6 (mg_nw hb) rfl (by omega) (kk := ?_)
      refine w_iload_n dX7_dies_7 rfl ?_
      refine w_callSr dX7_dies_8 k_X7_49 (pm_X7_has) rfl rfl (Nat.le_of_ble_eq_true rfl) (Nat.le_of_ble_eq_true rfl) (Nat.le_of_ble_eq_true rfl) (rc00 (mlen hb) (Nat.le_refl 0)) ?_
      refine w_zif_ne_t (tgt := 16) dX7_dies_11 (by decide) h1 ?_
      refine w_iload_n dX7_dies_16 rfl ?_
      refine w_iload_n dX7_dies_17 rfl ?_
      refine w_icmp_ne_t (tgt := 23) dX7_dies_18 (by decide) h2n ?_
      refine w_aload_n dX7_dies_23 rfl ?_
      refine w_get dX7_dies_24 f_X7_13 (mg0 hb) rfl ?_
      refine w_bipush (v := 94) dX7_dies_27 (by decide) ?_
      refine w_ialdN (k := 94) dX7_dies_29 (mg_nw hb) rfl (by omega) (kk := ?_)
      refine w_iload_n dX7_dies_30 rfl ?_
      refine w_callSr dX7_dies_31 k_X7_49 (pm_X7_has) rfl rfl (Nat.le_of_ble_eq_true rfl) (Nat.le_of_ble_eq_true rfl) (Nat.le_of_ble_eq_true rfl) (rc00 (mlen hb) (Nat.le_refl 0)) ?_
      refine w_zif_eq_t (tgt := 39) dX7_dies_34 (by decide) h3 ?_
      refine w_aload_n dX7_dies_39 rfl ?_
      refine w_get dX7_dies_40 f_X7_13 (mg0 hb) rfl ?_
      refine w_bipush (v := 94) dX7_dies_43 (by decide) ?_
      refine w_aload_n dX7_dies_45 rfl ?_
      refine w_get dX7_dies_46 f_X7_13 (mg0 hb) rfl ?_
      refine w_bipush (v := 94) dX7_dies_49 (by decide) ?_
      refine w_ialdN (k := 94) dX7_dies_51 (mg_nw hb) rfl (by omega) (kk := ?_)
      refine w_iconst (v := 1) dX7_dies_52 (by decide) ?_
      refine w_iload_n dX7_dies_53 rfl ?_
      refine w_ishl dX7_dies_54 ?_
      refine w_iconst (v := (-1)) dX7_dies_55 (by decide) ?_
      refine w_ixor dX7_dies_56 ?_
      refine w_iand dX7_dies_57 ?_
      refine w_iconst (v := 1) dX7_dies_58 (by decide) ?_
      refine w_iload_n dX7_dies_59 rfl ?_
      refine w_ishl dX7_dies_60 ?_
      refine w_ior dX7_dies_61 ?_
      refine w_aMn_nw (k := 94) dX7_dies_62 hb rfl (by omega) ?_
      refine w_heq (h2 := (mput h (tnw M (aDi0 (mnw M) i j)))) rfl ?_
      refine w_aload_n dX7_dies_63 rfl ?_
      refine w_get dX7_dies_64 f_X7_13 (mg0 hb) rfl ?_
      refine w_iload_n dX7_dies_67 rfl ?_
      refine w_aload_n dX7_dies_68 rfl ?_
      refine w_get dX7_dies_69 f_X7_13 (mg0 hb) rfl ?_
      refine w_iload_n dX7_dies_72 rfl ?_
      refine w_ialdN (k := i) dX7_dies_73 (mg_nw hb) rfl (by omega) (kk := ?_)
      refine w_aload_n dX7_dies_74 rfl ?_
      refine w_get dX7_dies_75 f_X7_13 (mg0 hb) rfl ?_
      refine w_iload_n dX7_dies_78 rfl ?_
      refine w_ialdN (k := i) dX7_dies_79 (mg_nw hb) rfl (by omega) (kk := ?_)
      refine w_iconst (v := 1) dX7_dies_80 (by decide) ?_
      refine w_isub dX7_dies_81 ?_
      refine w_iand dX7_dies_82 ?_
      refine w_aMn_nw (k := j) dX7_dies_83 hb rfl (by omega) ?_
      refine w_heq (h2 := (mput h (tnw M (aDi1 (mnw M) i j)))) rfl ?_
      refine w_aload_n dX7_dies_84 rfl ?_
      refine w_get dX7_dies_85 f_X7_13 (mg0 hb) rfl ?_
      refine w_bipush (v := 8) dX7_dies_88 (by decide) ?_
      refine w_iload_n dX7_dies_90 rfl ?_
      refine w_iadd dX7_dies_91 ?_
      refine w_aload_n dX7_dies_92 rfl ?_
      refine w_get dX7_dies_93 f_X7_13 (mg0 hb) rfl ?_
      refine w_bipush (v := 8) dX7_dies_96 (by decide) ?_
      refine w_iload_n dX7_dies_98 rfl ?_
      refine w_iadd dX7_dies_99 ?_
      refine w_ialdN (k := (8 + i)) dX7_dies_100 (mg_nw hb) (nadd rfl rfl) (by omega) (kk := ?_)
      refine w_iconst (v := 2) dX7_dies_101 (by decide) ?_
      refine w_idiv dX7_dies_102 (by decide) ?_
      refine w_aMn_nw (k := (8 + j)) dX7_dies_103 hb (nadd rfl rfl) (by omega) ?_
      refine w_heq (h2 := (mput h (tnw M (aDa (mnw M) i j)))) rfl ?_
      refine w_aload_n dX7_dies_104 rfl ?_
      refine w_get dX7_dies_105 f_X7_13 (mg0 hb) rfl ?_
      refine w_bipush (v := 16) dX7_dies_108 (by decide) ?_
      refine w_iload_n dX7_dies_110 rfl ?_
      refine w_iadd dX7_dies_111 ?_
      refine w_iload_n dX7_dies_112 rfl ?_
      refine w_aMn_nw (k := (16 + j)) dX7_dies_113 hb (nadd rfl rfl) (by omega) ?_
      refine w_heq (h2 := (mput h (tnw M (aDb (mnw M) i j)))) rfl ?_
      refine w_aload_n dX7_dies_114 rfl ?_
      refine w_get dX7_dies_115 f_X7_13 (mg0 hb) rfl ?_
      refine w_iload_n dX7_dies_118 rfl ?_
      refine w_iconst (v := 0) dX7_dies_119 (by decide) ?_
      refine w_aMn_nw (k := i) dX7_dies_120 hb rfl (by omega) ?_
      refine w_heq (h2 := (mput h (tnw M (aDc (mnw M) i j)))) rfl ?_
      refine w_aload_n dX7_dies_121 rfl ?_
      refine w_get dX7_dies_122 f_X7_13 (mg0 hb) rfl ?_
      refine w_bipush (v := 8) dX7_dies_125 (by decide) ?_
      refine w_iload_n dX7_dies_127 rfl ?_
      refine w_iadd dX7_dies_128 ?_
      refine w_iconst (v := 0) dX7_dies_129 (by decide) ?_
      refine w_aMn_nw (k := (8 + i)) dX7_dies_130 hb (nadd rfl rfl) (by omega) ?_
      refine w_heq (h2 := (mput h (tnw M (aDi2 (mnw M) i j)))) rfl ?_
      refine w_iconst (v := 0) dX7_dies_131 (by decide) ?_
      refine w_istore_3 dX7_dies_132 (Nat.le_of_ble_eq_true rfl) rfl ?_
      exact w_heq (congrArg (fun z => mput h (tnw M z)) (iter_0 (aMv i j) (aDi2 (mnw M) i j))) (loop 8 0 rfl _ _)

set_option maxRecDepth 100000 in
set_option maxHeartbeats 1000000 in
theorem pm_X7_lends {l : Launch} {D : va_G} {h : PH} {M : MS} (hb : 38 < h.length) {i j : Nat} {k : Int32} (hi : i < 8) (hj : j < 8) : PM l D YX7_lends 3 [.ref 28, .int (nI i), .int k, .int (nI j)] (mput h M) 0 0 (some (.int (rLen (mnw M) i j k))) (mput h (mLenM M i j k)) := by
  refine pm_of2 (n0 := h.length) kb_YX7_lends (mlen hb) [some (.ref 28), some (.int (nI i)), some (.int k), some (.int (nI j)), none] (fun _ => rfl) (fun _ => (Nat.le_of_ble_eq_true rfl)) ?_
  cases h1 : sBit (mnw M 94) (nI i) with
  | false =>
    refine w_aload_n dX7_lends_0 rfl ?_
    refine w_get dX7_lends_1 f_X7_13 (mg0 hb) rfl ?_
    refine w_bipush (v := 94) dX7_lends_4 (by decide) ?_
    refine w_ialdN (k := 94) dX7_lends_6 (mg_nw hb) rfl (by omega) (kk := ?_)
    refine w_iload_n dX7_lends_7 rfl ?_
    refine w_callSr dX7_lends_8 k_X7_49 (pm_X7_has) rfl rfl (Nat.le_of_ble_eq_true rfl) (Nat.le_of_ble_eq_true rfl) (Nat.le_of_ble_eq_true rfl) (rc00 (mlen hb) (Nat.le_refl 0)) ?_
    refine w_zif_ne_f dX7_lends_11 ⟨16, by decide⟩ h1 ?_
    refine w_iconst (v := 1) dX7_lends_14 (by decide) ?_
    exact w_iret dX7_lends_15 rfl (by rw [rLen, h1, if_neg (by decide)]; try rfl) (by rw [mLenM, if_neg (by rw [rLen, h1, if_neg (by decide)]; decide)]) (mlen hb) (Nat.le_refl 0)
  | true =>
    by_cases h2 : i = j
    · skip
      refine w_aload_n dX7_lends_0 rfl ?_
      refine w_get dX7_lends_1 f_X7_13 (mg0 hb) rfl ?_
      refine w_bipush (v := 94) dX7_lends_4 (by decide) ?_
      refine w_ialdN (k := 94) dX7_lends_6 (mg_nw hb) rfl (by omega) (kk := ?_)
      refine w_iload_n dX7_lends_7 rfl ?_
      refine w_callSr dX7_lends_8 k_X7_49 (pm_X7_has) rfl rfl (Nat.le_of_ble_eq_true rfl) (Nat.le_of_ble_eq_true rfl) (Nat.le_of_ble_eq_true rfl) (rc00 (mlen hb) (Nat.le_refl 0)) ?_
      refine w_zif_ne_t (tgt := 16) dX7_lends_11 (by decide) h1 ?_
      refine w_iload_n dX7_lends_16 rfl ?_
      refine w_iload_n dX7_lends_17 rfl ?_
      refine w_icmp_ne_f dX7_lends_18 ⟨23, by decide⟩ (by rw [h2]) ?_
      refine w_iconst (v := 2) dX7_lends_21 (by decide) ?_
      exact w_iret dX7_lends_22 rfl (by rw [rLen, if_pos h1, if_pos h2]; try rfl) (by rw [mLenM, if_neg (by rw [rLen, if_pos h1, if_pos h2]; decide)]) (mlen hb) (Nat.le_refl 0)
    have h2n : ¬ nI i = nI j := fun z => h2 ((nI_eq (by omega) (by omega)).mp z)
    cases h3 : sBit (mnw M 94) (nI j) with
    | false =>
      refine w_aload_n dX7_lends_0 rfl ?_
      refine w_get dX7_lends_1 f_X7_13 (mg0 hb) rfl ?_
      refine w_bipush (v := 94) dX7_lends_4 (by decide) ?_
      refine w_ialdN (k := 94) dX7_lends_6 (mg_nw hb) rfl (by omega) (kk := ?_)
      refine w_iload_n dX7_lends_7 rfl ?_
      refine w_callSr dX7_lends_8 k_X7_49 (pm_X7_has) rfl rfl (Nat.le_of_ble_eq_true rfl) (Nat.le_of_ble_eq_true rfl) (Nat.le_of_ble_eq_true rfl) (rc00 (mlen hb) (Nat.le_refl 0)) ?_
      refine w_zif_ne_t (tgt := 16) dX7_lends_11 (by decide) h1 ?_
      refine w_iload_n dX7_lends_16 rfl ?_
      refine w_iload_n dX7_lends_17 rfl ?_
      refine w_icmp_ne_t (tgt := 23) dX7_lends_18 (by decide) h2n ?_
      refine w_aload_n dX7_lends_23 rfl ?_
      refine w_get dX7_lends_24 f_X7_13 (mg0 hb) rfl ?_
      refine w_bipush (v := 94) dX7_lends_27 (by decide) ?_
      refine w_ialdN (k := 94) dX7_lends_29 (mg_nw hb) rfl (by omega) (kk := ?_)
      refine w_iload_n dX7_lends_30 rfl ?_
      refine w_callSr dX7_lends_31 k_X7_49 (pm_X7_has) rfl rfl (Nat.le_of_ble_eq_true rfl) (Nat.le_of_ble_eq_true rfl) (Nat.le_of_ble_eq_true rfl) (rc00 (mlen hb) (Nat.le_refl 0)) ?_
      refine w_zif_ne_f dX7_lends_34 ⟨39, by decide⟩ h3 ?_
      refine w_iconst (v := 3) dX7_lends_37 (by decide) ?_
      exact w_iret dX7_lends_38 rfl (by rw [rLen, if_pos h1, if_neg h2, if_neg (by rw [h3]; decide)]; try rfl) (by rw [mLenM, if_neg (by rw [rLen, if_pos h1, if_neg h2, if_neg (by rw [h3]; decide)]; decide)]) (mlen hb) (Nat.le_refl 0)
    | true =>
      by_cases h4 : mnw M (8 + i) < k
      · skip
        refine w_aload_n dX7_lends_0 rfl ?_
        refine w_get dX7_lends_1 f_X7_13 (mg0 hb) rfl ?_
        refine w_bipush (v := 94) dX7_lends_4 (by decide) ?_
        refine w_ialdN (k := 94) dX7_lends_6 (mg_nw hb) rfl (by omega) (kk := ?_)
        refine w_iload_n dX7_lends_7 rfl ?_
        refine w_callSr dX7_lends_8 k_X7_49 (pm_X7_has) rfl rfl (Nat.le_of_ble_eq_true rfl) (Nat.le_of_ble_eq_true rfl) (Nat.le_of_ble_eq_true rfl) (rc00 (mlen hb) (Nat.le_refl 0)) ?_
        refine w_zif_ne_t (tgt := 16) dX7_lends_11 (by decide) h1 ?_
        refine w_iload_n dX7_lends_16 rfl ?_
        refine w_iload_n dX7_lends_17 rfl ?_
        refine w_icmp_ne_t (tgt := 23) dX7_lends_18 (by decide) h2n ?_
        refine w_aload_n dX7_lends_23 rfl ?_
        refine w_get dX7_lends_24 f_X7_13 (mg0 hb) rfl ?_
        refine w_bipush (v := 94) dX7_lends_27 (by decide) ?_
        refine w_ialdN (k := 94) dX7_lends_29 (mg_nw hb) rfl (by omega) (kk := ?_)
        refine w_iload_n dX7_lends_30 rfl ?_
        refine w_callSr dX7_lends_31 k_X7_49 (pm_X7_has) rfl rfl (Nat.le_of_ble_eq_true rfl) (Nat.le_of_ble_eq_true rfl) (Nat.le_of_ble_eq_true rfl) (rc00 (mlen hb) (Nat.le_refl 0)) ?_
        refine w_zif_ne_t (tgt := 39) dX7_lends_34 (by decide) h3 ?_
        refine w_bipush (v := 24) dX7_lends_39 (by decide) ?_
        refine w_bipush (v := 8) dX7_lends_41 (by decide) ?_
        refine w_iload_n dX7_lends_43 rfl ?_
        refine w_imul dX7_lends_44 ?_
        refine w_iadd dX7_lends_45 ?_
        refine w_iload_n dX7_lends_46 rfl ?_
        refine w_iadd dX7_lends_47 ?_
        refine w_istore_4 dX7_lends_48 (Nat.le_of_ble_eq_true rfl) rfl ?_
        refine w_aload_n dX7_lends_50 rfl ?_
        refine w_get dX7_lends_51 f_X7_13 (mg0 hb) rfl ?_
        refine w_bipush (v := 8) dX7_lends_54 (by decide) ?_
        refine w_iload_n dX7_lends_56 rfl ?_
        refine w_iadd dX7_lends_57 ?_
        refine w_ialdN (k := (8 + i)) dX7_lends_58 (mg_nw hb) (nadd rfl rfl) (by omega) (kk := ?_)
        refine w_iload_n dX7_lends_59 rfl ?_
        refine w_icmp_lt_t (tgt := 78) dX7_lends_60 (by decide) h4 ?_
        refine w_iconst (v := 4) dX7_lends_78 (by decide) ?_
        exact w_iret dX7_lends_79 rfl (by rw [rLen, if_pos h1, if_neg h2, if_pos h3, if_pos h4]; try rfl) (by rw [mLenM, if_neg (by rw [rLen, if_pos h1, if_neg h2, if_pos h3, if_pos h4]; decide)]) (mlen hb) (Nat.le_refl 0)
      by_cases h5 : mnw M (24 + 8 * j + i) + k ≤ 999
      · have hz : rLen (mnw M) i j k = 0 := by rw [rLen, if_pos h1, if_neg h2, if_pos h3, if_neg h4, if_pos h5]
        refine w_aload_n dX7_lends_0 rfl ?_
        refine w_get dX7_lends_1 f_X7_13 (mg0 hb) rfl ?_
        refine w_bipush (v := 94) dX7_lends_4 (by decide) ?_
        refine w_ialdN (k := 94) dX7_lends_6 (mg_nw hb) rfl (by omega) (kk := ?_)
        refine w_iload_n dX7_lends_7 rfl ?_
        refine w_callSr dX7_lends_8 k_X7_49 (pm_X7_has) rfl rfl (Nat.le_of_ble_eq_true rfl) (Nat.le_of_ble_eq_true rfl) (Nat.le_of_ble_eq_true rfl) (rc00 (mlen hb) (Nat.le_refl 0)) ?_
        refine w_zif_ne_t (tgt := 16) dX7_lends_11 (by decide) h1 ?_
        refine w_iload_n dX7_lends_16 rfl ?_
        refine w_iload_n dX7_lends_17 rfl ?_
        refine w_icmp_ne_t (tgt := 23) dX7_lends_18 (by decide) h2n ?_
        refine w_aload_n dX7_lends_23 rfl ?_
        refine w_get dX7_lends_24 f_X7_13 (mg0 hb) rfl ?_
        refine w_bipush (v := 94) dX7_lends_27 (by decide) ?_
        refine w_ialdN (k := 94) dX7_lends_29 (mg_nw hb) rfl (by omega) (kk := ?_)
        refine w_iload_n dX7_lends_30 rfl ?_
        refine w_callSr dX7_lends_31 k_X7_49 (pm_X7_has) rfl rfl (Nat.le_of_ble_eq_true rfl) (Nat.le_of_ble_eq_true rfl) (Nat.le_of_ble_eq_true rfl) (rc00 (mlen hb) (Nat.le_refl 0)) ?_
        refine w_zif_ne_t (tgt := 39) dX7_lends_34 (by decide) h3 ?_
        refine w_bipush (v := 24) dX7_lends_39 (by decide) ?_
        refine w_bipush (v := 8) dX7_lends_41 (by decide) ?_
        refine w_iload_n dX7_lends_43 rfl ?_
        refine w_imul dX7_lends_44 ?_
        refine w_iadd dX7_lends_45 ?_
        refine w_iload_n dX7_lends_46 rfl ?_
        refine w_iadd dX7_lends_47 ?_
        refine w_istore_4 dX7_lends_48 (Nat.le_of_ble_eq_true rfl) rfl ?_
        refine w_aload_n dX7_lends_50 rfl ?_
        refine w_get dX7_lends_51 f_X7_13 (mg0 hb) rfl ?_
        refine w_bipush (v := 8) dX7_lends_54 (by decide) ?_
        refine w_iload_n dX7_lends_56 rfl ?_
        refine w_iadd dX7_lends_57 ?_
        refine w_ialdN (k := (8 + i)) dX7_lends_58 (mg_nw hb) (nadd rfl rfl) (by omega) (kk := ?_)
        refine w_iload_n dX7_lends_59 rfl ?_
        refine w_icmp_lt_f dX7_lends_60 ⟨78, by decide⟩ h4 ?_
        refine w_aload_n dX7_lends_63 rfl ?_
        refine w_get dX7_lends_64 f_X7_13 (mg0 hb) rfl ?_
        refine w_iload dX7_lends_67 rfl ?_
        refine w_ialdN (k := ((24 + (8 * j)) + i)) dX7_lends_69 (mg_nw hb) (nadd (nadd rfl (nmul rfl rfl)) rfl) (by omega) (kk := ?_)
        refine w_iload_n dX7_lends_70 rfl ?_
        refine w_iadd dX7_lends_71 ?_
        refine w_sipush (v := 999) dX7_lends_72 (by decide) ?_
        refine w_icmp_le_t (tgt := 80) dX7_lends_75 (by decide) h5 ?_
        refine w_aload_n dX7_lends_80 rfl ?_
        refine w_get dX7_lends_81 f_X7_13 (mg0 hb) rfl ?_
        refine w_iload dX7_lends_84 rfl ?_
        refine w_dup2 dX7_lends_86 rfl rfl ?_
        refine w_ialdN (k := ((24 + (8 * j)) + i)) dX7_lends_87 (mg_nw hb) (nadd (nadd rfl (nmul rfl rfl)) rfl) (by omega) (kk := ?_)
        refine w_iload_n dX7_lends_88 rfl ?_
        refine w_iadd dX7_lends_89 ?_
        refine w_aMn_nw (k := ((24 + (8 * j)) + i)) dX7_lends_90 hb (nadd (nadd rfl (nmul rfl rfl)) rfl) (by omega) ?_
        refine w_aload_n dX7_lends_91 rfl ?_
        refine w_get dX7_lends_92 f_X7_13 (mg0 hb) rfl ?_
        refine w_bipush (v := 8) dX7_lends_95 (by decide) ?_
        refine w_iload_n dX7_lends_97 rfl ?_
        refine w_iadd dX7_lends_98 ?_
        refine w_dup2 dX7_lends_99 rfl rfl ?_
        refine w_ialdN (k := (8 + i)) dX7_lends_100 (mg_nw hb) (nadd rfl rfl) (by omega) (kk := ?_)
        refine w_iload_n dX7_lends_101 rfl ?_
        refine w_isub dX7_lends_102 ?_
        refine w_aMn_nw (k := (8 + i)) dX7_lends_103 hb (nadd rfl rfl) (by omega) ?_
        refine w_aload_n dX7_lends_104 rfl ?_
        refine w_iload_n dX7_lends_105 rfl ?_
        refine w_iload_n dX7_lends_106 rfl ?_
        refine w_callVv dX7_lends_107 k_X7_84 (pm_X7_gets hb (by omega)) rfl rfl (mg0 hb) rfl (Nat.le_of_ble_eq_true rfl) (Nat.le_of_ble_eq_true rfl) (Nat.le_of_ble_eq_true rfl) (rc00 (mlen hb) (Nat.le_refl 0)) ?_
        refine w_iconst (v := 0) dX7_lends_110 (by decide) ?_
        exact w_iret dX7_lends_111 rfl hz.symm (by rw [mLenM, if_pos hz]; rfl) (mlen hb) (Nat.le_refl 0)
      refine w_aload_n dX7_lends_0 rfl ?_
      refine w_get dX7_lends_1 f_X7_13 (mg0 hb) rfl ?_
      refine w_bipush (v := 94) dX7_lends_4 (by decide) ?_
      refine w_ialdN (k := 94) dX7_lends_6 (mg_nw hb) rfl (by omega) (kk := ?_)
      refine w_iload_n dX7_lends_7 rfl ?_
      refine w_callSr dX7_lends_8 k_X7_49 (pm_X7_has) rfl rfl (Nat.le_of_ble_eq_true rfl) (Nat.le_of_ble_eq_true rfl) (Nat.le_of_ble_eq_true rfl) (rc00 (mlen hb) (Nat.le_refl 0)) ?_
      refine w_zif_ne_t (tgt := 16) dX7_lends_11 (by decide) h1 ?_
      refine w_iload_n dX7_lends_16 rfl ?_
      refine w_iload_n dX7_lends_17 rfl ?_
      refine w_icmp_ne_t (tgt := 23) dX7_lends_18 (by decide) h2n ?_
      refine w_aload_n dX7_lends_23 rfl ?_
      refine w_get dX7_lends_24 f_X7_13 (mg0 hb) rfl ?_
      refine w_bipush (v := 94) dX7_lends_27 (by decide) ?_
      refine w_ialdN (k := 94) dX7_lends_29 (mg_nw hb) rfl (by omega) (kk := ?_)
      refine w_iload_n dX7_lends_30 rfl ?_
      refine w_callSr dX7_lends_31 k_X7_49 (pm_X7_has) rfl rfl (Nat.le_of_ble_eq_true rfl) (Nat.le_of_ble_eq_true rfl) (Nat.le_of_ble_eq_true rfl) (rc00 (mlen hb) (Nat.le_refl 0)) ?_
      refine w_zif_ne_t (tgt := 39) dX7_lends_34 (by decide) h3 ?_
      refine w_bipush (v := 24) dX7_lends_39 (by decide) ?_
      refine w_bipush (v := 8) dX7_lends_41 (by decide) ?_
      refine w_iload_n dX7_lends_43 rfl ?_
      refine w_imul dX7_lends_44 ?_
      refine w_iadd dX7_lends_45 ?_
      refine w_iload_n dX7_lends_46 rfl ?_
      refine w_iadd dX7_lends_47 ?_
      refine w_istore_4 dX7_lends_48 (Nat.le_of_ble_eq_true rfl) rfl ?_
      refine w_aload_n dX7_lends_50 rfl ?_
      refine w_get dX7_lends_51 f_X7_13 (mg0 hb) rfl ?_
      refine w_bipush (v := 8) dX7_lends_54 (by decide) ?_
      refine w_iload_n dX7_lends_56 rfl ?_
      refine w_iadd dX7_lends_57 ?_
      refine w_ialdN (k := (8 + i)) dX7_lends_58 (mg_nw hb) (nadd rfl rfl) (by omega) (kk := ?_)
      refine w_iload_n dX7_lends_59 rfl ?_
      refine w_icmp_lt_f dX7_lends_60 ⟨78, by decide⟩ h4 ?_
      refine w_aload_n dX7_lends_63 rfl ?_
      refine w_get dX7_lends_64 f_X7_13 (mg0 hb) rfl ?_
      refine w_iload dX7_lends_67 rfl ?_
      refine w_ialdN (k := ((24 + (8 * j)) + i)) dX7_lends_69 (mg_nw hb) (nadd (nadd rfl (nmul rfl rfl)) rfl) (by omega) (kk := ?_)
      refine w_iload_n dX7_lends_70 rfl ?_
      refine w_iadd dX7_lends_71 ?_
      refine w_sipush (v := 999) dX7_lends_72 (by decide) ?_
      refine w_icmp_le_f dX7_lends_75 ⟨80, by decide⟩ h5 ?_
      refine w_iconst (v := 4) dX7_lends_78 (by decide) ?_
      exact w_iret dX7_lends_79 rfl (by rw [rLen, if_pos h1, if_neg h2, if_pos h3, if_neg h4, if_neg h5]; try rfl) (by rw [mLenM, if_neg (by rw [rLen, if_pos h1, if_neg h2, if_pos h3, if_neg h4, if_neg h5]; decide)]) (mlen hb) (Nat.le_refl 0)

set_option maxRecDepth 100000 in
set_option maxHeartbeats 1000000 in
theorem pm_X7_endYear {l : Launch} {D : va_G} {h : PH} {M : MS} (hb : 38 < h.length) : PM l D YX7_endYear 1 [.ref 28] (mput h M) 0 0 (some (.int (rEnd (mnw M)))) (mput h (mEndM M)) := by
  refine pm_of2 (n0 := h.length) kb_YX7_endYear (mlen hb) [some (.ref 28)] (fun _ => rfl) (fun _ => (Nat.le_of_ble_eq_true rfl)) ?_
  refine w_aload_n dX7_endYear_0 rfl ?_
  refine w_get dX7_endYear_1 f_X7_13 (mg0 hb) rfl ?_
  refine w_bipush (v := 95) dX7_endYear_4 (by decide) ?_
  refine w_ialdN (k := 95) dX7_endYear_6 (mg_nw hb) rfl (by omega) (kk := ?_)
  refine w_bipush (v := 99) dX7_endYear_7 (by decide) ?_
  refine w_icmp_ne (tgt := 14) dX7_endYear_9 (by decide) (fun c_9 => ?_) (fun c_9 => ?_)
  · skip
    refine w_aload_n dX7_endYear_14 rfl ?_
    refine w_get dX7_endYear_15 f_X7_13 (mg0 hb) rfl ?_
    refine w_bipush (v := 95) dX7_endYear_18 (by decide) ?_
    refine w_dup2 dX7_endYear_20 rfl rfl ?_
    refine w_ialdN (k := 95) dX7_endYear_21 (mg_nw hb) rfl (by omega) (kk := ?_)
    refine w_iconst (v := 1) dX7_endYear_22 (by decide) ?_
    refine w_iadd dX7_endYear_23 ?_
    refine w_aMn_nw (k := 95) dX7_endYear_24 hb rfl (by omega) ?_
    refine w_iconst (v := 0) dX7_endYear_25 (by decide) ?_
    exact w_iret dX7_endYear_26 rfl (by simp only [rEnd, if_pos, if_neg, not_false_eq_true, c_9]) (by simp only [mEndM, if_pos, if_neg, not_false_eq_true, c_9]) (mlen hb) (Nat.le_refl 0)
  · skip
    refine w_iconst (v := 5) dX7_endYear_12 (by decide) ?_
    exact w_iret dX7_endYear_13 rfl (by simp only [rEnd, if_pos, if_neg, not_false_eq_true, c_9]) (by simp only [mEndM, if_pos, if_neg, not_false_eq_true, c_9]) (mlen hb) (Nat.le_refl 0)

