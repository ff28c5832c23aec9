def imax (x y : Int32) : Int32 := if x < y then y else x
def imin (x y : Int32) : Int32 := if y < x then y else x
def clr (g j : Nat) : Nat := if g.testBit j then g - 2 ^ j else g
def bN (c : Nat → Bool) (n : Nat) : Nat := iter (fun i a => if c i then a ||| 2 ^ i else a) n 0
def bxs (N : WS) (i : Nat) : Nat := bN (fun x => sLets N (nI x) (nI i)) 6
def mWth (N : WS) (mo : Nat → Int32) (i j g : Nat) : Int32 := wco N j + mo ((i + 1) * 64 + clr g j)
def fMo (N : WS) (mo : Nat → Int32) (i bx g : Nat) (j : Nat) (best : Int32) : Int32 := if bx.testBit j then imax best (mWth N mo i j g) else best
def mOf (N : WS) (mo : Nat → Int32) (i bx g : Nat) : Int32 := iter (fMo N mo i bx g) 6 (mo ((i + 1) * 64 + g))
def fWg (N : WS) (i g : Nat) (m : Nat → Int32) : Nat → Int32 := upd m (i * 64 + g) (mOf N m i (bxs N i &&& g) g)
def wgR (N : WS) (i : Nat) (m : Nat → Int32) : Nat → Int32 := iter (fWg N i) 64 m
def wgD (N : WS) : Nat → (Nat → Int32) → Nat → Int32
  | 0, m => m
  | k + 1, m => wgD N k (wgR N k m)
def lbGo (c : Nat → Bool) : Nat → Nat → Int32
  | 0, _ => -6
  | k + 1, x => if c x then nI x else lbGo c k (x + 1)
def lbF (N : WS) (mo : Nat → Int32) (i f x : Nat) : Bool := (bxs N i &&& f).testBit x && decide (mWth N mo i x f = mo (i * 64 + f))
def lbb (N : WS) (mo : Nat → Int32) (i f : Nat) : Int32 := lbGo (lbF N mo i f) 6 0
def bxF (N : WS) (mo : Nat → Int32) : Nat → Nat
  | 0 => 63
  | i + 1 => if lbb N mo i (bxF N mo i) = -6 then bxF N mo i else clr (bxF N mo i) (lbb N mo i (bxF N mo i)).toNatClampNeg
def bxB (N : WS) (mo : Nat → Int32) : Nat → Int32
  | 0 => -6
  | i + 1 => lbb N mo i (bxF N mo i)
theorem nI_and (a b : Nat) : nI a &&& nI b = nI (a &&& b) := by
  apply Int32.toBitVec_inj.mp
  show BitVec.ofNat 32 a &&& BitVec.ofNat 32 b = BitVec.ofNat 32 (a &&& b)
  exact (BitVec.ofNat_and ..).symm
theorem nI_or (a b : Nat) : nI a ||| nI b = nI (a ||| b) := by
  apply Int32.toBitVec_inj.mp
  show BitVec.ofNat 32 a ||| BitVec.ofNat 32 b = BitVec.ofNat 32 (a ||| b)
  exact (BitVec.ofNat_or ..).symm
theorem shl_nI : ∀ j, j < 8 → (1 : Int32) <<< (nI j &&& 31) = nI (2 ^ j) := by decide
theorem clr_nI : ∀ g, g < 64 → ∀ j, j < 6 → nI g &&& (((1 : Int32) <<< (nI j &&& 31)) ^^^ (-1)) = nI (clr g j) := by decide +kernel
theorem clr_lt : ∀ g, g < 64 → ∀ j, j < 6 → clr g j < 64 := by decide +kernel
theorem bit_nI : ∀ g, g < 256 → ∀ j, j < 8 → sBit (nI g) (nI j) = g.testBit j := by decide +kernel
theorem shr_0 : ∀ g, g < 64 → ∀ j, j < 6 → nI g >>> (nI j &&& 31) = 0 → ∀ x, x < 6 → j ≤ x → g.testBit x = false := by decide +kernel
theorem bN_lt (c : Nat → Bool) : ∀ n, bN c n < 2 ^ n
  | 0 => by show 0 < 1; decide
  | n + 1 => by
    have ih := bN_lt c n
    have e : bN c (n + 1) = if c n then bN c n ||| 2 ^ n else bN c n := rfl
    rw [e]
    split
    · exact Nat.or_lt_two_pow (Nat.lt_of_lt_of_le ih (Nat.pow_le_pow_right (by decide) (Nat.le_succ n))) (Nat.pow_lt_pow_right (by decide) (Nat.lt_succ_self n))
    · exact Nat.lt_of_lt_of_le ih (Nat.pow_le_pow_right (by decide) (Nat.le_succ n))
theorem bitsOf_nI (c : Nat → Bool) : ∀ n, n ≤ 8 → bitsOf c n = nI (bN c n)
  | 0, _ => rfl
  | n + 1, h => by
    have ih := bitsOf_nI c n (by omega)
    have e1 : bitsOf c (n + 1) = fOr c n (bitsOf c n) := rfl
    have e2 : bN c (n + 1) = if c n then bN c n ||| 2 ^ n else bN c n := rfl
    rw [e1, e2, ih, fOr]
    split
    · rw [shl_nI n (by omega), nI_or]
    · rfl
theorem boxes_nI (N : WS) (i : Nat) : sBoxes N (nI i) = nI (bxs N i) := bitsOf_nI _ 6 (by decide)
theorem bxs_lt (N : WS) (i : Nat) : bxs N i < 64 := bN_lt _ 6
theorem and_lt6 {a g : Nat} (hg : g < 64) : a &&& g < 64 := Nat.lt_of_le_of_lt Nat.and_le_right hg
theorem ix_mo (i g : Nat) : (nI i + 1) * 64 + nI g = nI ((i + 1) * 64 + g) := by
  rw [nI_1, show (64 : Int32) = nI 64 from rfl, pk_mul, nI_add]
theorem ix_m0 (i g : Nat) : nI i * 64 + nI g = nI (i * 64 + g) := by
  rw [show (64 : Int32) = nI 64 from rfl, pk_mul, nI_add]
theorem lb_rng {c : Nat → Bool} : ∀ k x, x + k ≤ 6 → lbGo c k x = -6 ∨ ∃ j, j < 6 ∧ lbGo c k x = nI j
  | 0, x, _ => Or.inl rfl
  | k + 1, x, h => by
    rw [lbGo]
    split
    · exact Or.inr ⟨x, by omega, rfl⟩
    · exact lb_rng k (x + 1) (by omega)
theorem bxF_lt (N : WS) (mo : Nat → Int32) : ∀ i, bxF N mo i < 64
  | 0 => by show 63 < 64; decide
  | i + 1 => by
    have ih := bxF_lt N mo i
    rw [bxF]
    split
    · exact ih
    · next h =>
      rcases lb_rng (c := lbF N mo i (bxF N mo i)) 6 0 (by decide) with e | ⟨j, hj, e⟩
      · exact absurd e h
      · rw [show lbb N mo i (bxF N mo i) = nI j from e, nI_clamp (by omega)]
        exact clr_lt _ ih j hj
set_option maxRecDepth 100000 in
set_option maxHeartbeats 4000000 in
theorem pm_X2_mostBehind {l : Launch} {D : va_G} {N T : WS} {im : Nat → Option Nat} {ps mo op : Nat → Int32} {pn ta tb tw tp tn ka kf ks kc tot : Int32} {t : PH} {i g : Nat} (hi : i < 8) (hg : g < 64) : PM l D YX2_mostBehind 1 [.ref 24, .int (nI i), .int (nI g)] (XH N im ps pn T ta tb tw tp tn ka kf ks kc mo op tot t) 0 0 (some (.int (mo ((i + 1) * 64 + g)))) (XH N im ps pn T ta tb tw tp tn ka kf ks kc mo op tot t) := by
  refine pm_of2 (n0 := (t.length + 28)) kb_YX2_mostBehind rfl [some (.ref 24), some (.int (nI i)), some (.int (nI g))] (fun _ => rfl) (fun _ => (Nat.le_of_ble_eq_true rfl)) ?_
  refine w_aload_n dX2_mostBehind_0 rfl ?_
  refine w_get dX2_mostBehind_1 f_X2_11 rfl rfl ?_
  refine w_iload_n dX2_mostBehind_4 rfl ?_
  refine w_iconst (v := 1) dX2_mostBehind_5 (by decide) ?_
  refine w_iadd dX2_mostBehind_6 ?_
  refine w_bipush (v := 64) dX2_mostBehind_7 (by decide) ?_
  refine w_imul dX2_mostBehind_9 ?_
  refine w_iload_n dX2_mostBehind_10 rfl ?_
  refine w_iadd dX2_mostBehind_11 ?_
  refine w_iald dX2_mostBehind_12 rfl (by rw [ix_mo]; exact vp_in_nI (by omega) (by decide)) ?_
  exact w_iret dX2_mostBehind_13 rfl (by rw [ix_mo, nI_clamp (by omega)]) rfl rfl (Nat.le_refl 0)

set_option maxRecDepth 100000 in
set_option maxHeartbeats 4000000 in
theorem pm_X2_mostWith {l : Launch} {D : va_G} {N T : WS} {im : Nat → Option Nat} {ps mo op : Nat → Int32} {pn ta tb tw tp tn ka kf ks kc tot : Int32} {t : PH} {i j g : Nat} (hi : i < 8) (hj : j < 6) (hg : g < 64) : PM l D YX2_mostWith 2 [.ref 24, .ref 1, .int (nI i), .int (nI j), .int (nI g)] (XH N im ps pn T ta tb tw tp tn ka kf ks kc mo op tot t) 0 0 (some (.int (mWth N mo i j g))) (XH N im ps pn T ta tb tw tp tn ka kf ks kc mo op tot t) := by
  refine pm_of2 (n0 := (t.length + 28)) kb_YX2_mostWith rfl [some (.ref 24), some (.ref 1), some (.int (nI i)), some (.int (nI j)), some (.int (nI g))] (fun _ => rfl) (fun _ => (Nat.le_of_ble_eq_true rfl)) ?_
  refine w_aload_n dX2_mostWith_0 rfl ?_
  refine w_get dX2_mostWith_1 f_X2_41 rfl rfl ?_
  refine w_iload_n dX2_mostWith_4 rfl ?_
  refine w_iald dX2_mostWith_5 rfl (vp_in_nI hj (by decide)) ?_
  refine w_aload_n dX2_mostWith_6 rfl ?_
  refine w_iload_n dX2_mostWith_7 rfl ?_
  refine w_iload dX2_mostWith_8 rfl ?_
  refine w_iconst (v := 1) dX2_mostWith_10 (by decide) ?_
  refine w_iload_n dX2_mostWith_11 rfl ?_
  refine w_ishl dX2_mostWith_12 ?_
  refine w_iconst (v := (-1)) dX2_mostWith_13 (by decide) ?_
  refine w_ixor dX2_mostWith_14 ?_
  refine w_iand dX2_mostWith_15 ?_
  refine w_top (clr_nI g hg j hj) ?_
  refine w_callVr dX2_mostWith_16 k_X2_25 (pm_X2_mostBehind hi (clr_lt g hg j hj)) rfl rfl rfl rfl (Nat.le_of_ble_eq_true rfl) (Nat.le_of_ble_eq_true rfl) (Nat.le_of_ble_eq_true rfl) (rc00 rfl (Nat.le_refl 0)) ?_
  refine w_iadd dX2_mostWith_19 ?_
  exact w_iret dX2_mostWith_20 rfl (by rw [nI_clamp (by omega)]; rfl) rfl rfl (Nat.le_refl 0)

theorem mo_stop {N : WS} {mo : Nat → Int32} {i bx g j : Nat} {a : Int32} (hz : ∀ x, x < 6 → j ≤ x → bx.testBit x = false) : ∀ k, j + k ≤ 6 → iter (fMo N mo i bx g) (j + k) a = iter (fMo N mo i bx g) j a
  | 0, _ => rfl
  | k + 1, h => by
    show fMo N mo i bx g (j + k) (iter (fMo N mo i bx g) (j + k) a) = _
    rw [fMo, hz (j + k) (by omega) (by omega), mo_stop hz k (by omega)]
    rfl
set_option maxRecDepth 100000 in
set_option maxHeartbeats 4000000 in
theorem pm_X2_mostOf {l : Launch} {D : va_G} {N T : WS} {im : Nat → Option Nat} {ps mo op : Nat → Int32} {pn ta tb tw tp tn ka kf ks kc tot : Int32} {t : PH} {i bx g : Nat} (hi : i < 8) (hb : bx < 64) (hg : g < 64) : PM l D YX2_mostOf 3 [.ref 24, .ref 1, .int (nI i), .int (nI bx), .int (nI g)] (XH N im ps pn T ta tb tw tp tn ka kf ks kc mo op tot t) 0 0 (some (.int (mOf N mo i bx g))) (XH N im ps pn T ta tb tw tp tn ka kf ks kc mo op tot t) := by
  refine pm_of2 (n0 := (t.length + 28)) kb_YX2_mostOf rfl [some (.ref 24), some (.ref 1), some (.int (nI i)), some (.int (nI bx)), some (.int (nI g)), none, none] (fun _ => rfl) (fun _ => (Nat.le_of_ble_eq_true rfl)) ?_
  have loop : ∀ (k j : Nat), j + k = 6 → Wp l D YX2_mostOf (pRm 3 0 0) (t.length + 28) (fun _ _ _ => True) (mE D (t.length + 28) 0 0 (some (.int (mOf N mo i bx g))) (XH N im ps pn T ta tb tw tp tn ka kf ks kc mo op tot t)) 12 [some (.ref 24), some (.ref 1), some (.int (nI i)), some (.int (nI bx)), some (.int (nI g)), some (.int (iter (fMo N mo i bx g) j (mo ((i + 1) * 64 + g)))), some (.int (nI j))] [] (XH N im ps pn T ta tb tw tp tn ka kf ks kc mo op tot t) 0 := by
    intro k
    induction k with
    | zero =>
      intro j hj
      have hj : j = 6 := by omega
      subst hj
      refine w_iload dX2_mostOf_12 rfl ?_
      refine w_bipush (v := 6) dX2_mostOf_14 (by decide) ?_
      refine w_icmp_ge_t (tgt := 58) dX2_mostOf_16 (by decide) (Int32.le_refl _) ?_
      refine w_iload dX2_mostOf_58 rfl ?_
      exact w_iret dX2_mostOf_60 rfl rfl rfl rfl (Nat.le_refl 0)
    | succ k ih =>
      intro j hj
      refine w_iload dX2_mostOf_12 rfl ?_
      refine w_bipush (v := 6) dX2_mostOf_14 (by decide) ?_
      refine w_icmp_ge_f dX2_mostOf_16 ⟨58, by decide⟩ (lp_g hj (by decide) rfl) ?_
      refine w_iload_n dX2_mostOf_19 rfl ?_
      refine w_iload dX2_mostOf_20 rfl ?_
      refine w_ishr dX2_mostOf_22 ?_
      refine w_if_eq (tgt := 58) dX2_mostOf_23 (by decide) (fun c_23 => ?_) (fun c_23 => ?_)
      · skip
        refine w_iload dX2_mostOf_58 rfl ?_
        exact w_iret dX2_mostOf_60 rfl (by rw [mOf, ← mo_stop (shr_0 bx hb j (by omega) c_23) (k + 1) (by omega), hj]) rfl rfl (Nat.le_refl 0)
      · skip
        refine w_iload_n dX2_mostOf_26 rfl ?_
        refine w_iload dX2_mostOf_27 rfl ?_
        refine w_callSr dX2_mostOf_29 k_X2_29 (pm_X6_hasBit) rfl rfl (Nat.le_of_ble_eq_true rfl) (Nat.le_of_ble_eq_true rfl) (Nat.le_of_ble_eq_true rfl) (rc00 rfl (Nat.le_refl 0)) ?_
        rw [bit_nI bx (by omega) j (by omega)]
        refine w_zif_eq (tgt := 52) dX2_mostOf_32 (by decide) (fun c_32 => ?_) (fun c_32 => ?_)
        · skip
          refine w_iinc_6 (v := 1) dX2_mostOf_52 (by decide) (Nat.le_of_ble_eq_true rfl) rfl ?_
          refine w_goto (tgt := 12) dX2_mostOf_55 (by decide) ?_
          refine w_loc_6 (nI_1 j) (w_loc_5 ?_ (ih (j + 1) (by omega)))
          show _ = fMo N mo i bx g j (iter (fMo N mo i bx g) j (mo ((i + 1) * 64 + g)))
          simp only [fMo, *]
          try rfl
        · skip
          refine w_iload dX2_mostOf_35 rfl ?_
          refine w_aload_n dX2_mostOf_37 rfl ?_
          refine w_aload_n dX2_mostOf_38 rfl ?_
          refine w_iload_n dX2_mostOf_39 rfl ?_
          refine w_iload dX2_mostOf_40 rfl ?_
          refine w_iload dX2_mostOf_42 rfl ?_
          refine w_callVr dX2_mostOf_44 k_X2_33 (pm_X2_mostWith hi (by omega) hg) rfl rfl rfl rfl (Nat.le_of_ble_eq_true rfl) (Nat.le_of_ble_eq_true rfl) (Nat.le_of_ble_eq_true rfl) (rc00 rfl (Nat.le_refl 0)) ?_
          refine w_mmax dX2_mostOf_47 m_X2_36 (Nat.le_of_ble_eq_true rfl) (Nat.le_of_ble_eq_true rfl) (Nat.le_of_ble_eq_true rfl) (rc01 rfl (Nat.le_refl 0)) ?_
          refine w_istore_5 dX2_mostOf_50 (Nat.le_of_ble_eq_true rfl) rfl ?_
          refine w_iinc_6 (v := 1) dX2_mostOf_52 (by decide) (Nat.le_of_ble_eq_true rfl) rfl ?_
          refine w_goto (tgt := 12) dX2_mostOf_55 (by decide) ?_
          refine w_loc_6 (nI_1 j) (w_loc_5 ?_ (ih (j + 1) (by omega)))
          show _ = fMo N mo i bx g j (iter (fMo N mo i bx g) j (mo ((i + 1) * 64 + g)))
          simp only [fMo, *]
          try rfl
  refine w_aload_n dX2_mostOf_0 rfl ?_
  refine w_iload_n dX2_mostOf_1 rfl ?_
  refine w_iload dX2_mostOf_2 rfl ?_
  refine w_callVr dX2_mostOf_4 k_X2_25 (pm_X2_mostBehind hi hg) rfl rfl rfl rfl (Nat.le_of_ble_eq_true rfl) (Nat.le_of_ble_eq_true rfl) (Nat.le_of_ble_eq_true rfl) (rc00 rfl (Nat.le_refl 0)) ?_
  refine w_istore_5 dX2_mostOf_7 (Nat.le_of_ble_eq_true rfl) rfl ?_
  refine w_iconst (v := 0) dX2_mostOf_9 (by decide) ?_
  refine w_istore_6 dX2_mostOf_10 (Nat.le_of_ble_eq_true rfl) rfl ?_
  exact loop 6 0 rfl

set_option maxRecDepth 100000 in
set_option maxHeartbeats 4000000 in
theorem pm_X2_weigh {l : Launch} {D : va_G} {N T : WS} {im : Nat → Option Nat} {ps mo op : Nat → Int32} {pn ta tb tw tp tn ka kf ks kc tot : Int32} {t : PH}  : PM l D YX2_weigh 5 [.ref 24, .ref 1] (XH N im ps pn T ta tb tw tp tn ka kf ks kc mo op tot t) 0 0 none (XH N im ps pn T ta tb tw tp tn ka kf ks kc (wgD N 8 mo) op tot t) := by
  refine pm_of2 (n0 := (t.length + 28)) kb_YX2_weigh rfl [some (.ref 24), some (.ref 1), none, none, none] (fun _ => rfl) (fun _ => (Nat.le_of_ble_eq_true rfl)) ?_
  have inner : ∀ (i : Nat) (m0 : Nat → Int32), i < 8 → (∀ o1 o2, Wp l D YX2_weigh (pRm 5 0 0) (t.length + 28) (fun _ _ _ => True) (mE D (t.length + 28) 0 0 none (XH N im ps pn T ta tb tw tp tn ka kf ks kc (wgD N 8 mo) op tot t)) 53 [some (.ref 24), some (.ref 1), some (.int (nI i)), o1, o2] [] (XH N im ps pn T ta tb tw tp tn ka kf ks kc (wgR N i m0) op tot t) 0) → ∀ (k g : Nat), g + k = 64 → Wp l D YX2_weigh (pRm 5 0 0) (t.length + 28) (fun _ _ _ => True) (mE D (t.length + 28) 0 0 none (XH N im ps pn T ta tb tw tp tn ka kf ks kc (wgD N 8 mo) op tot t)) 16 [some (.ref 24), some (.ref 1), some (.int (nI i)), some (.int (nI (bxs N i))), some (.int (nI g))] [] (XH N im ps pn T ta tb tw tp tn ka kf ks kc (iter (fWg N i) g m0) op tot t) 0 := by
    intro i m0 hi out k
    induction k with
    | zero =>
      intro g hg
      have hg : g = 64 := by omega
      subst hg
      refine w_iload dX2_weigh_16 rfl ?_
      refine w_bipush (v := 64) dX2_weigh_18 (by decide) ?_
      refine w_icmp_ge_t (tgt := 53) dX2_weigh_20 (by decide) (Int32.le_refl _) ?_
      exact out _ _
    | succ k ih =>
      intro g hg0
      have hg : g < 64 := by omega
      refine w_iload dX2_weigh_16 rfl ?_
      refine w_bipush (v := 64) dX2_weigh_18 (by decide) ?_
      refine w_icmp_ge_f dX2_weigh_20 ⟨53, by decide⟩ (lp_g hg0 (by decide) rfl) ?_
      refine w_aload_n dX2_weigh_23 rfl ?_
      refine w_get dX2_weigh_24 f_X2_11 rfl rfl ?_
      refine w_iload_n dX2_weigh_27 rfl ?_
      refine w_bipush (v := 64) dX2_weigh_28 (by decide) ?_
      refine w_imul dX2_weigh_30 ?_
      refine w_iload dX2_weigh_31 rfl ?_
      refine w_iadd dX2_weigh_33 ?_
      refine w_aload_n dX2_weigh_34 rfl ?_
      refine w_aload_n dX2_weigh_35 rfl ?_
      refine w_iload_n dX2_weigh_36 rfl ?_
      refine w_iload_n dX2_weigh_37 rfl ?_
      refine w_iload dX2_weigh_38 rfl ?_
      refine w_iand dX2_weigh_40 ?_
      rw [nI_and]
      refine w_iload dX2_weigh_41 rfl ?_
      refine w_callVr dX2_weigh_43 k_X2_21 (pm_X2_mostOf (by omega) (and_lt6 hg) hg) rfl rfl rfl rfl (Nat.le_of_ble_eq_true rfl) (Nat.le_of_ble_eq_true rfl) (Nat.le_of_ble_eq_true rfl) (rc00 rfl (Nat.le_refl 0)) ?_
      refine x_aM0 dX2_weigh_46 (by rw [ix_m0]; exact vp_in_nI (by omega) (by decide)) ?_
      refine w_heq (h2 := (XH N im ps pn T ta tb tw tp tn ka kf ks kc (iter (fWg N i) (g + 1) m0) op tot t)) ?_ ?_
      · show (XH N im ps pn T ta tb tw tp tn ka kf ks kc (upd (iter (fWg N i) g m0) (nI i * 64 + nI g : Int32).toNatClampNeg _) op tot t) = _
        rw [ix_m0, nI_clamp (by omega)]; rfl
      refine w_iinc_4 (v := 1) dX2_weigh_47 (by decide) (Nat.le_of_ble_eq_true rfl) rfl ?_
      refine w_goto (tgt := 16) dX2_weigh_50 (by decide) ?_
      exact w_loc_4 (nI_1 g) (ih (g + 1) (by omega))
  have loop : ∀ (k : Nat) (m0 : Nat → Int32), k ≤ 8 → wgD N k m0 = wgD N 8 mo → ∀ o1 o2, Wp l D YX2_weigh (pRm 5 0 0) (t.length + 28) (fun _ _ _ => True) (mE D (t.length + 28) 0 0 none (XH N im ps pn T ta tb tw tp tn ka kf ks kc (wgD N 8 mo) op tot t)) 3 [some (.ref 24), some (.ref 1), some (.int (nI k + (-1))), o1, o2] [] (XH N im ps pn T ta tb tw tp tn ka kf ks kc m0 op tot t) 0 := by
    intro k
    induction k with
    | zero =>
      intro m0 hk hr o1 o2
      refine w_iload_n dX2_weigh_3 rfl ?_
      refine w_if_lt_t (tgt := 59) dX2_weigh_4 (by decide) (by decide) ?_
      exact w_vret dX2_weigh_59 rfl (by rw [← hr]; rfl) rfl (Nat.le_refl 0)
    | succ k ih =>
      intro m0 hk hr o1 o2
      refine w_loc_2 (pk_m1 k) ?_
      refine w_iload_n dX2_weigh_3 rfl ?_
      refine w_if_lt_f dX2_weigh_4 ⟨59, by decide⟩ (nI_pos (by omega)) ?_
      refine w_aload_n dX2_weigh_7 rfl ?_
      refine w_iload_n dX2_weigh_8 rfl ?_
      refine w_callVr dX2_weigh_9 k_X2_15 (xN_boxesFor) rfl rfl rfl rfl (Nat.le_of_ble_eq_true rfl) (Nat.le_of_ble_eq_true rfl) (Nat.le_of_ble_eq_true rfl) (rc00 rfl (Nat.le_refl 0)) ?_
      rw [boxes_nI]
      refine w_istore_3 dX2_weigh_12 (Nat.le_of_ble_eq_true rfl) rfl ?_
      refine w_iconst (v := 0) dX2_weigh_13 (by decide) ?_
      refine w_istore_4 dX2_weigh_14 (Nat.le_of_ble_eq_true rfl) rfl ?_
      refine inner k m0 (by omega) (fun o1 o2 => ?_) 64 0 rfl
      refine w_iinc_2 (v := (-1)) dX2_weigh_53 (by decide) (Nat.le_of_ble_eq_true rfl) rfl ?_
      refine w_goto (tgt := 3) dX2_weigh_56 (by decide) ?_
      exact ih _ (by omega) hr _ _
  refine w_bipush (v := 7) dX2_weigh_0 (by decide) ?_
  refine w_istore_2 dX2_weigh_2 (Nat.le_of_ble_eq_true rfl) rfl ?_
  exact loop 8 mo (by decide) rfl _ _

set_option maxRecDepth 100000 in
set_option maxHeartbeats 4000000 in
theorem pm_X2_mostTogether {l : Launch} {D : va_G} {N T : WS} {im : Nat → Option Nat} {ps mo op : Nat → Int32} {pn ta tb tw tp tn ka kf ks kc tot : Int32} {t : PH}  : PM l D YX2_mostTogether 1 [.ref 24] (XH N im ps pn T ta tb tw tp tn ka kf ks kc mo op tot t) 0 0 (some (.int (mo 63))) (XH N im ps pn T ta tb tw tp tn ka kf ks kc mo op tot t) := by
  refine pm_of2 (n0 := (t.length + 28)) kb_YX2_mostTogether rfl [some (.ref 24)] (fun _ => rfl) (fun _ => (Nat.le_of_ble_eq_true rfl)) ?_
  refine w_aload_n dX2_mostTogether_0 rfl ?_
  refine w_get dX2_mostTogether_1 f_X2_11 rfl rfl ?_
  refine w_bipush (v := 63) dX2_mostTogether_4 (by decide) ?_
  refine w_iald dX2_mostTogether_6 rfl (vp_in_nI (n := 63) (by decide) (by decide)) ?_
  exact w_iret dX2_mostTogether_7 rfl rfl rfl rfl (Nat.le_refl 0)

set_option maxRecDepth 100000 in
set_option maxHeartbeats 4000000 in
theorem pm_X2_leastBestBox {l : Launch} {D : va_G} {N T : WS} {im : Nat → Option Nat} {ps mo op : Nat → Int32} {pn ta tb tw tp tn ka kf ks kc tot : Int32} {t : PH} {i f : Nat} (hi : i < 8) (hf : f < 64) : PM l D YX2_leastBestBox 5 [.ref 24, .ref 1, .int (nI i), .int (nI f)] (XH N im ps pn T ta tb tw tp tn ka kf ks kc mo op tot t) 0 0 (some (.int (lbb N mo i f))) (XH N im ps pn T ta tb tw tp tn ka kf ks kc mo op tot t) := by
  refine pm_of2 (n0 := (t.length + 28)) kb_YX2_leastBestBox rfl [some (.ref 24), some (.ref 1), some (.int (nI i)), some (.int (nI f)), none, none] (fun _ => rfl) (fun _ => (Nat.le_of_ble_eq_true rfl)) ?_
  have loop : ∀ (k x : Nat), x + k = 6 → lbGo (lbF N mo i f) k x = lbb N mo i f → Wp l D YX2_leastBestBox (pRm 5 0 0) (t.length + 28) (fun _ _ _ => True) (mE D (t.length + 28) 0 0 (some (.int (lbb N mo i f))) (XH N im ps pn T ta tb tw tp tn ka kf ks kc mo op tot t)) 12 [some (.ref 24), some (.ref 1), some (.int (nI i)), some (.int (nI f)), some (.int (nI (bxs N i &&& f))), some (.int (nI x))] [] (XH N im ps pn T ta tb tw tp tn ka kf ks kc mo op tot t) 0 := by
    intro k
    induction k with
    | zero =>
      intro x hx hr
      have hx : x = 6 := by omega
      subst hx
      refine w_iload dX2_leastBestBox_12 rfl ?_
      refine w_bipush (v := 6) dX2_leastBestBox_14 (by decide) ?_
      refine w_icmp_ge_t (tgt := 61) dX2_leastBestBox_16 (by decide) (Int32.le_refl _) ?_
      refine w_bipush (v := (-6)) dX2_leastBestBox_61 (by decide) ?_
      exact w_iret dX2_leastBestBox_63 rfl (by rw [← hr]; rfl) rfl rfl (Nat.le_refl 0)
    | succ k ih =>
      intro x hx hr
      rw [lbGo] at hr
      refine w_iload dX2_leastBestBox_12 rfl ?_
      refine w_bipush (v := 6) dX2_leastBestBox_14 (by decide) ?_
      refine w_icmp_ge_f dX2_leastBestBox_16 ⟨61, by decide⟩ (lp_g hx (by decide) rfl) ?_
      refine w_iload dX2_leastBestBox_19 rfl ?_
      refine w_iload dX2_leastBestBox_21 rfl ?_
      refine w_callSr dX2_leastBestBox_23 k_X2_29 (pm_X6_hasBit) rfl rfl (Nat.le_of_ble_eq_true rfl) (Nat.le_of_ble_eq_true rfl) (Nat.le_of_ble_eq_true rfl) (rc00 rfl (Nat.le_refl 0)) ?_
      rw [bit_nI _ (Nat.lt_trans (and_lt6 hf) (by decide)) x (by omega)]
      refine w_zif_eq (tgt := 55) dX2_leastBestBox_26 (by decide) (fun c_26 => ?_) (fun c_26 => ?_)
      · skip
        refine w_iinc_5 (v := 1) dX2_leastBestBox_55 (by decide) (Nat.le_of_ble_eq_true rfl) rfl ?_
        refine w_goto (tgt := 12) dX2_leastBestBox_58 (by decide) ?_
        rw [if_neg (by simp [lbF, *])] at hr
        exact w_loc_5 (nI_1 x) (ih (x + 1) (by omega) hr)
      · skip
        refine w_aload_n dX2_leastBestBox_29 rfl ?_
        refine w_aload_n dX2_leastBestBox_30 rfl ?_
        refine w_iload_n dX2_leastBestBox_31 rfl ?_
        refine w_iload dX2_leastBestBox_32 rfl ?_
        refine w_iload_n dX2_leastBestBox_34 rfl ?_
        refine w_callVr dX2_leastBestBox_35 k_X2_33 (pm_X2_mostWith hi (by omega) hf) rfl rfl rfl rfl (Nat.le_of_ble_eq_true rfl) (Nat.le_of_ble_eq_true rfl) (Nat.le_of_ble_eq_true rfl) (rc00 rfl (Nat.le_refl 0)) ?_
        refine w_aload_n dX2_leastBestBox_38 rfl ?_
        refine w_get dX2_leastBestBox_39 f_X2_11 rfl rfl ?_
        refine w_iload_n dX2_leastBestBox_42 rfl ?_
        refine w_bipush (v := 64) dX2_leastBestBox_43 (by decide) ?_
        refine w_imul dX2_leastBestBox_45 ?_
        refine w_iload_n dX2_leastBestBox_46 rfl ?_
        refine w_iadd dX2_leastBestBox_47 ?_
        refine w_iald dX2_leastBestBox_48 rfl (by rw [ix_m0]; exact vp_in_nI (by omega) (by decide)) ?_
        rw [ix_m0, nI_clamp (by omega)]
        refine w_icmp_ne (tgt := 55) dX2_leastBestBox_49 (by decide) (fun c_49 => ?_) (fun c_49 => ?_)
        · skip
          refine w_iinc_5 (v := 1) dX2_leastBestBox_55 (by decide) (Nat.le_of_ble_eq_true rfl) rfl ?_
          refine w_goto (tgt := 12) dX2_leastBestBox_58 (by decide) ?_
          rw [if_neg (by simp [lbF, *])] at hr
          exact w_loc_5 (nI_1 x) (ih (x + 1) (by omega) hr)
        · skip
          refine w_iload dX2_leastBestBox_52 rfl ?_
          exact w_iret dX2_leastBestBox_54 rfl (by rw [if_pos (by simp [lbF, *])] at hr; exact hr) rfl rfl (Nat.le_refl 0)
  refine w_aload_n dX2_leastBestBox_0 rfl ?_
  refine w_iload_n dX2_leastBestBox_1 rfl ?_
  refine w_callVr dX2_leastBestBox_2 k_X2_15 (xN_boxesFor) rfl rfl rfl rfl (Nat.le_of_ble_eq_true rfl) (Nat.le_of_ble_eq_true rfl) (Nat.le_of_ble_eq_true rfl) (rc00 rfl (Nat.le_refl 0)) ?_
  rw [boxes_nI]
  refine w_iload_n dX2_leastBestBox_5 rfl ?_
  refine w_iand dX2_leastBestBox_6 ?_
  rw [nI_and]
  refine w_istore_4 dX2_leastBestBox_7 (Nat.le_of_ble_eq_true rfl) rfl ?_
  refine w_iconst (v := 0) dX2_leastBestBox_9 (by decide) ?_
  refine w_istore_5 dX2_leastBestBox_10 (Nat.le_of_ble_eq_true rfl) rfl ?_
  exact loop 6 0 rfl rfl

set_option maxRecDepth 100000 in
set_option maxHeartbeats 4000000 in
theorem pm_X2_boxOf {l : Launch} {D : va_G} {N T : WS} {im : Nat → Option Nat} {ps mo op : Nat → Int32} {pn ta tb tw tp tn ka kf ks kc tot : Int32} {t : PH} {w : Nat} (hw : w < 8) : PM l D YX2_boxOf 6 [.ref 24, .ref 1, .int (nI w)] (XH N im ps pn T ta tb tw tp tn ka kf ks kc mo op tot t) 0 0 (some (.int (bxB N mo (w + 1)))) (XH N im ps pn T ta tb tw tp tn ka kf ks kc mo op tot t) := by
  refine pm_of2 (n0 := (t.length + 28)) kb_YX2_boxOf rfl [some (.ref 24), some (.ref 1), some (.int (nI w)), none, none, none] (fun _ => rfl) (fun _ => (Nat.le_of_ble_eq_true rfl)) ?_
  have loop : ∀ (k i : Nat), i + k = w + 1 → Wp l D YX2_boxOf (pRm 6 0 0) (t.length + 28) (fun _ _ _ => True) (mE D (t.length + 28) 0 0 (some (.int (bxB N mo (w + 1)))) (XH N im ps pn T ta tb tw tp tn ka kf ks kc mo op tot t)) 10 [some (.ref 24), some (.ref 1), some (.int (nI w)), some (.int (nI (bxF N mo i))), some (.int (bxB N mo i)), some (.int (nI i))] [] (XH N im ps pn T ta tb tw tp tn ka kf ks kc mo op tot t) 0 := by
    intro k
    induction k with
    | zero =>
      intro i hi
      have hi : i = w + 1 := by omega
      subst hi
      refine w_iload dX2_boxOf_10 rfl ?_
      refine w_bipush (v := 8) dX2_boxOf_12 (by decide) ?_
      refine w_icmp_ge (tgt := 59) dX2_boxOf_14 (by decide) (fun c_14 => ?_) (fun c_14 => ?_)
      · skip
        refine w_iload dX2_boxOf_59 rfl ?_
        exact w_iret dX2_boxOf_61 rfl rfl rfl rfl (Nat.le_refl 0)
      · skip
        refine w_iload dX2_boxOf_17 rfl ?_
        refine w_iload_n dX2_boxOf_19 rfl ?_
        refine w_icmp_gt_t (tgt := 59) dX2_boxOf_20 (by decide) (nI_lt (by omega) (by omega)) ?_
        refine w_iload dX2_boxOf_59 rfl ?_
        exact w_iret dX2_boxOf_61 rfl rfl rfl rfl (Nat.le_refl 0)
    | succ k ih =>
      intro i hi
      refine w_iload dX2_boxOf_10 rfl ?_
      refine w_bipush (v := 8) dX2_boxOf_12 (by decide) ?_
      refine w_icmp_ge_f dX2_boxOf_14 ⟨59, by decide⟩ (nI_ge (b := 8) (by omega) (by decide)) ?_
      refine w_iload dX2_boxOf_17 rfl ?_
      refine w_iload_n dX2_boxOf_19 rfl ?_
      refine w_icmp_gt_f dX2_boxOf_20 ⟨59, by decide⟩ (nI_nlt (by omega) (by omega)) ?_
      refine w_aload_n dX2_boxOf_23 rfl ?_
      refine w_aload_n dX2_boxOf_24 rfl ?_
      refine w_iload dX2_boxOf_25 rfl ?_
      refine w_iload_n dX2_boxOf_27 rfl ?_
      refine w_callVr dX2_boxOf_28 k_X2_44 (pm_X2_leastBestBox (by omega) (bxF_lt N mo i)) rfl rfl rfl rfl (Nat.le_of_ble_eq_true rfl) (Nat.le_of_ble_eq_true rfl) (Nat.le_of_ble_eq_true rfl) (rc00 rfl (Nat.le_refl 0)) ?_
      refine w_istore_4 dX2_boxOf_31 (Nat.le_of_ble_eq_true rfl) rfl ?_
      refine w_iload dX2_boxOf_33 rfl ?_
      refine w_bipush (v := (-6)) dX2_boxOf_35 (by decide) ?_
      refine w_ticmp_ne (a := ?a37_1) (b := ?b37_1) (pJ := 52) (tgt := 44) dX2_boxOf_37 (by decide) (fun c_37 k => ?hA37_1) (fun c_37 k => ?hB37_1) ?hk37_1
      case hA37_1 =>
        refine w_iload_n dX2_boxOf_44 rfl ?_
        refine w_iconst (v := 1) dX2_boxOf_45 (by decide) ?_
        refine w_iload dX2_boxOf_46 rfl ?_
        refine w_ishl dX2_boxOf_48 ?_
        refine w_iconst (v := (-1)) dX2_boxOf_49 (by decide) ?_
        refine w_ixor dX2_boxOf_50 ?_
        refine w_iand dX2_boxOf_51 ?_
        exact k
      case hB37_1 =>
        refine w_iload_n dX2_boxOf_40 rfl ?_
        refine w_goto (tgt := 52) dX2_boxOf_41 (by decide) ?_
        exact k
      refine w_istore_3 dX2_boxOf_52 (Nat.le_of_ble_eq_true rfl) rfl ?_
      refine w_iinc_5 (v := 1) dX2_boxOf_53 (by decide) (Nat.le_of_ble_eq_true rfl) rfl ?_
      refine w_goto (tgt := 10) dX2_boxOf_56 (by decide) ?_
      refine w_loc_5 (nI_1 i) (w_loc_3 ?_ (ih (i + 1) (by omega)))
      rw [bxF]
      by_cases hq : lbb N mo i (bxF N mo i) = -6
      · rw [if_pos hq, if_pos hq]
      · rw [if_neg hq, if_neg hq]
        rcases lb_rng (c := lbF N mo i (bxF N mo i)) 6 0 (by decide) with e | ⟨j, hj, e⟩
        · exact absurd e hq
        · rw [show lbb N mo i (bxF N mo i) = nI j from e, nI_clamp (by omega)]
          exact clr_nI _ (bxF_lt N mo i) j hj
  refine w_bipush (v := 63) dX2_boxOf_0 (by decide) ?_
  refine w_istore_3 dX2_boxOf_2 (Nat.le_of_ble_eq_true rfl) rfl ?_
  refine w_bipush (v := (-6)) dX2_boxOf_3 (by decide) ?_
  refine w_istore_4 dX2_boxOf_5 (Nat.le_of_ble_eq_true rfl) rfl ?_
  refine w_iconst (v := 0) dX2_boxOf_7 (by decide) ?_
  refine w_istore_5 dX2_boxOf_8 (Nat.le_of_ble_eq_true rfl) rfl ?_
  exact loop (w + 1) 0 (by omega)

