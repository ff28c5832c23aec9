def cBirR (N : WS) (s m p : Int32) : Int32 := if sSoul s then (if sIn m 0 255 then (if sIn p 0 999 then bc (wlv (sBear N s m p)) else -2) else -2) else -1
def cBirN (N : WS) (s m p : Int32) : WS := if sSoul s then (if sIn m 0 255 then (if sIn p 0 999 then sBear N s m p else N) else N) else N
def sBoxSet (N : WS) (x w h c : Int32) : WS := sco (shi (swn N (upd (wwn N) x.toNatClampNeg w)) (upd (whi N) x.toNatClampNeg h)) (upd (wco N) x.toNatClampNeg c)
def cBoxR (N : WS) (x w h c : Int32) : Int32 := if sBox x then (if sIn w 0 255 then (if sIn h 0 8 then (if sIn c 0 999 then wco N x.toNatClampNeg else -2) else -2) else -2) else -1
def cBoxN (N : WS) (x w h c : Int32) : WS := if sBox x then (if sIn w 0 255 then (if sIn h 0 8 then (if sIn c 0 999 then sBoxSet N x w h c else N) else N) else N) else N
def cSayR (pn g : Int32) : Int32 := if sIn g 33 126 then (if pn < 60 then pn + 1 else -4) else -2
def cSayP (ps : Nat → Int32) (pn g : Int32) : Nat → Int32 := if sIn g 33 126 then (if pn < 60 then upd ps pn.toNatClampNeg g else ps) else ps
def cSayN (pn g : Int32) : Int32 := if sIn g 33 126 then (if pn < 60 then pn + 1 else pn) else pn
def cFol (N T : WS) (ps : Nat → Int32) (pn ka kf ks kc : Int32) : FR := fpGo ps pn 60 0 (sCpy T N) 0 0 (-6) ka kf ks kc
def cYq (N T : WS) (ps : Nat → Int32) (pn : Int32) (c : Nat) (ta tb tw tp tn ka kf ks kc : Int32) : FR := if fgo ps pn c 0 0 = -6 then cFol N T ps pn ka kf ks kc else (T, ta, tb, tw, tp, tn, ka, kf, ks, kc)
def cYr (N T : WS) (ps : Nat → Int32) (pn : Int32) (c : Nat) (ka kf ks kc : Int32) : Bool := decide (fgo ps pn c 0 0 = -6) && decide ((cFol N T ps pn ka kf ks kc).2.2.1 = -6)
def cTwo (N : WS) : Int32 := bitsOf (fun i => decide (2 ≤ bc (sLetIn N (nI i)))) 6
def cRing (N : WS) : Int32 := bitsOf (fun i => sBit (sBehind N (nI i)) (nI i)) 8
def cNet (N : WS) (s : Int32) : Int32 := iter (fun i a => a + (wde N (sDeb (nI i) s).toNatClampNeg - wde N (sDeb s (nI i)).toNatClampNeg)) 8 10000
def chGo (N : WS) : Nat → Int32 → Int32 → Int32 → Int32 × Int32
  | 0, met, last, _ => (met, last)
  | k + 1, met, last, at_ => if sSoul at_ then (if sBit met at_ then (met, last) else chGo N k (met ||| (1 <<< (at_ &&& 31))) at_ (wwa N at_.toNatClampNeg)) else (met, last)
def cCh (N : WS) (s : Int32) : Int32 × Int32 := chGo N 8 (1 <<< (s &&& 31)) (-6) (wwa N s.toNatClampNeg)
def cChR (N : WS) (s w : Int32) : Int32 := if sSoul s then (if sIn w 0 1 then (if w = 0 then bc (cCh N s).1 - 1 else (cCh N s).2) else -2) else -1
def cOwe (N : WS) (s o : Int32) : Int32 := if sSoul s then (if sSoul o then (if s = o then -1 else wde N (sDeb s o).toNatClampNeg) else -1) else -1
def cNote (N : WS) (s w : Int32) : Int32 := if sLiv N s then (if sIn w 0 1 then (if sNote N s = -6 then -6 else if w = 0 then bc (sNote N s) else sNote N s) else -2) else -1
def fOnl (N : WS) (x s : Int32) (i : Nat) (a : Int32) : Int32 := if nI i = s then a else if sLiv N (nI i) then imax a (sFelt N x (nI i) + 1) else a
def sLst (N : WS) (x s : Int32) : Int32 := iter (fOnl N x s) 8 0
def cOnly (N : WS) (x s : Int32) : Int32 := if sBox x then (if sLiv N s then (if sFelt N x s < sLst N x s then -6 else sLst N x s) else -1) else -1
def cShr (N : WS) (x s : Int32) : Int32 := if sBox x then (if sLiv N s then sShare N x s else -1) else -1
def cMat (N : WS) (mo : Nat → Int32) (s : Int32) : Int32 := if s = -1 then wgD N 8 mo 63 else if sLiv N s then bxB N (wgD N 8 mo) (s.toNatClampNeg + 1) else -1
def cMaM (N : WS) (mo : Nat → Int32) (s : Int32) : Nat → Int32 := if s = -1 then wgD N 8 mo else if sLiv N s then wgD N 8 mo else mo
def cSeeR (N : WS) (m o : Int32) : Int32 := if sIn m 0 255 then (if wsg N < 8 then wsg (sAddS N m o) else -4) else -2
def cSeeN (N : WS) (m o : Int32) : WS := if sIn m 0 255 then sAddS N m o else N
def cLaw (N : WS) (g : Nat) (i : Int32) : Int32 := if i = -1 then wlT N g 255 0 else sLaw N g i
def cNxT (N : WS) (g : Nat) (op : Nat → Int32) : Int32 := sTt N (wlO N g 255 (zO 8 op)) (wlT N g 255 0)
def cNxt (N : WS) (g : Nat) (op : Nat → Int32) (w : Int32) : Int32 := if sIn w 0 1 then (if cNxT N g op = -6 then -6 else if w = 0 then cNxT N g op else sMl (wlO N g 255 (zO 8 op)) (wlT N g 255 0) (cNxT N g op)) else -2
def lrm (x y : Int64) : Int64 := x - x / y * y
def wkC (f : Nat) (k : Nat) : Int64 := iter (fun k c => c * (nI f - nI k).toInt64 / (nI k + 1).toInt64) k 1
def wkW (f : Nat) (h : Int32) (keep lose : Int64) (k : Nat) : Int64 := iter (fun k a => if h ≤ nI k then a + wkC f k * lpow keep k * lpow lose (f - k) else a) k 0
def gcdGo : Nat → Int64 → Int64 → Int64
  | 0, a, _ => a
  | k + 1, a, b => if b = 0 then a else gcdGo k b (lrm a b)
def chUp (N : WS) (x s : Int32) (n t : Nat) : Int64 := wkW (sFelt N x s).toNatClampNeg (whi N x.toNatClampNeg) (lpow (nI t).toInt64 n) (lpow 10 n - lpow (nI t).toInt64 n) ((sFelt N x s).toNatClampNeg + 1)
def chLo (N : WS) (x s : Int32) (n : Nat) : Int64 := lpow (lpow 10 n) (sFelt N x s).toNatClampNeg
def chG (N : WS) (x s : Int32) (n t : Nat) : Int64 := gcdGo 200 (chLo N x s n) (chUp N x s n t)
def cChc (N : WS) (s x n t p : Int32) : Int64 := if sLiv N s then (if sBox x then (if sIn n 0 2 then (if sIn t 0 10 then (if sIn p 0 1 then (if chG N x s n.toNatClampNeg t.toNatClampNeg < 1 then -1000000000000000002 else if p = 0 then chUp N x s n.toNatClampNeg t.toNatClampNeg / chG N x s n.toNatClampNeg t.toNatClampNeg else chLo N x s n.toNatClampNeg / chG N x s n.toNatClampNeg t.toNatClampNeg) else -1000000000000000002) else -1000000000000000002) else -1000000000000000002) else -1000000000000000001) else -1000000000000000001
def cTb (N : WS) (x w : Int32) : Int32 := if sBox x then (if w = 0 then wwn N x.toNatClampNeg else if w = 1 then whi N x.toNatClampNeg else if w = 2 then wco N x.toNatClampNeg else -2) else -2
def cTs (N : WS) (s w : Int32) : Int32 := if sSoul s then (if w = 0 then wmk N s.toNatClampNeg else if w = 1 then wpu N s.toNatClampNeg else if w = 2 then wwa N s.toNatClampNeg else -2) else -2
def cTld (N : WS) (pn w : Int32) : Int32 := if w < 100 then (if w < 10 then (if w = 0 then pn else if w = 1 then wlv N else if w = 2 then wyr N else if w = 3 then wsg N else -2) else cTb N (w / 10 - 1) (jrem w 10)) else cTs N (w / 100 - 1) (jrem w 100)
theorem in_nI {x a b : Int32} (n : Nat) (hb : b = nI n) (hn : n < 2 ^ 31) (h0 : (0 : Int32) ≤ a) (h : sIn x a b = true) : ∃ k, k ≤ n ∧ x = nI k := by
  simp only [sIn, Bool.and_eq_true, decide_eq_true_eq] at h
  obtain ⟨j, hj, rfl⟩ := nI_of (x := x) (Int32.not_lt.mpr (Int32.le_trans h0 h.1))
  refine ⟨j, ?_, rfl⟩
  rw [hb] at h
  exact (nI_leI hj hn).mp h.2
theorem e_dec (p : Prop) [Decidable p] : (if p then (1 : Int32) else 0) = b2i (decide p) := by by_cases h : p <;> simp [b2i, h]
theorem ib_box {P : Prop} {x : Int32} (h : sBox x = true) : vp_in x 6 := vin_box h
set_option maxRecDepth 100000 in
set_option maxHeartbeats 4000000 in
theorem pm_X6_birth {l : Launch} {D : va_G} {N T : WS} {im : Nat → Option Nat} {ps mo op : Nat → Int32} {pn ta tb tw tp tn ka kf ks kc tot : Int32} {t : PH} {s m p : Int32} : PM l D YX6_birth 3 [.ref 0, .int s, .int m, .int p] (XH N im ps pn T ta tb tw tp tn ka kf ks kc mo op tot t) 0 0 (some (.int (cBirR N s m p))) (XH (cBirN N s m p) im ps pn T ta tb tw tp tn ka kf ks kc mo op tot t) := by
  refine pm_of2 (n0 := (t.length + 28)) kb_YX6_birth rfl [some (.ref 0), some (.int s), some (.int m), some (.int p)] (fun _ => rfl) (fun _ => (Nat.le_of_ble_eq_true rfl)) ?_
  refine w_iload_n dX6_birth_0 rfl ?_
  refine w_callSr dX6_birth_1 k_X6_48 (pm_X6_isSoul) rfl rfl (Nat.le_of_ble_eq_true rfl) (Nat.le_of_ble_eq_true rfl) (Nat.le_of_ble_eq_true rfl) (rc00 rfl (Nat.le_refl 0)) ?_
  refine w_zif_ne (tgt := 9) dX6_birth_4 (by decide) (fun c_4 => ?_) (fun c_4 => ?_)
  · skip
    refine w_iload_n dX6_birth_9 rfl ?_
    refine w_iconst (v := 0) dX6_birth_10 (by decide) ?_
    refine w_sipush (v := 255) dX6_birth_11 (by decide) ?_
    refine w_callSr dX6_birth_14 k_X6_52 (pm_X6_isWithin) rfl rfl (Nat.le_of_ble_eq_true rfl) (Nat.le_of_ble_eq_true rfl) (Nat.le_of_ble_eq_true rfl) (rc00 rfl (Nat.le_refl 0)) ?_
    refine w_zif_eq (tgt := 31) dX6_birth_17 (by decide) (fun c_17 => ?_) (fun c_17 => ?_)
    · skip
      refine w_bipush (v := (-2)) dX6_birth_31 (by decide) ?_
      exact w_iret dX6_birth_33 rfl (by simp only [cBirR, if_pos, if_neg, not_false_eq_true, if_true, if_false, Bool.false_eq_true, *]; try rfl) (by simp only [cBirN, if_pos, if_neg, not_false_eq_true, if_true, if_false, Bool.false_eq_true, *]; try rfl) rfl (Nat.le_refl 0)
    · skip
      refine w_iload_n dX6_birth_20 rfl ?_
      refine w_iconst (v := 0) dX6_birth_21 (by decide) ?_
      refine w_sipush (v := 999) dX6_birth_22 (by decide) ?_
      refine w_callSr dX6_birth_25 k_X6_52 (pm_X6_isWithin) rfl rfl (Nat.le_of_ble_eq_true rfl) (Nat.le_of_ble_eq_true rfl) (Nat.le_of_ble_eq_true rfl) (rc00 rfl (Nat.le_refl 0)) ?_
      refine w_zif_ne (tgt := 34) dX6_birth_28 (by decide) (fun c_28 => ?_) (fun c_28 => ?_)
      · skip
        refine w_aload_n dX6_birth_34 rfl ?_
        refine w_get dX6_birth_35 f_X6_10 rfl rfl ?_
        refine w_iload_n dX6_birth_38 rfl ?_
        refine w_iload_n dX6_birth_39 rfl ?_
        refine w_iload_n dX6_birth_40 rfl ?_
        refine w_callVv dX6_birth_41 k_X6_56 (xN_bear (vin_soul (by assumption))) rfl rfl rfl rfl (Nat.le_of_ble_eq_true rfl) (Nat.le_of_ble_eq_true rfl) (Nat.le_of_ble_eq_true rfl) (rc00 rfl (Nat.le_refl 0)) ?_
        refine w_aload_n dX6_birth_44 rfl ?_
        refine w_get dX6_birth_45 f_X6_10 rfl rfl ?_
        refine w_get dX6_birth_48 f_X6_60 rfl rfl ?_
        refine w_callSr dX6_birth_51 k_X6_64 (pm_bitCount) rfl rfl (Nat.le_of_ble_eq_true rfl) (Nat.le_of_ble_eq_true rfl) (Nat.le_of_ble_eq_true rfl) (rc00 rfl (Nat.le_refl 0)) ?_
        exact w_iret dX6_birth_54 rfl (by simp only [cBirR, if_pos, if_neg, not_false_eq_true, if_true, if_false, Bool.false_eq_true, *]; try rfl) (by simp only [cBirN, if_pos, if_neg, not_false_eq_true, if_true, if_false, Bool.false_eq_true, *]; try rfl) rfl (Nat.le_refl 0)
      · skip
        refine w_bipush (v := (-2)) dX6_birth_31 (by decide) ?_
        exact w_iret dX6_birth_33 rfl (by simp only [cBirR, if_pos, if_neg, not_false_eq_true, if_true, if_false, Bool.false_eq_true, *]; try rfl) (by simp only [cBirN, if_pos, if_neg, not_false_eq_true, if_true, if_false, Bool.false_eq_true, *]; try rfl) rfl (Nat.le_refl 0)
  · skip
    refine w_iconst (v := (-1)) dX6_birth_7 (by decide) ?_
    exact w_iret dX6_birth_8 rfl (by simp only [cBirR, if_pos, if_neg, not_false_eq_true, if_true, if_false, Bool.false_eq_true, *]; try rfl) (by simp only [cBirN, if_pos, if_neg, not_false_eq_true, if_true, if_false, Bool.false_eq_true, *]; try rfl) rfl (Nat.le_refl 0)

set_option maxRecDepth 100000 in
set_option maxHeartbeats 4000000 in
theorem pm_X6_box {l : Launch} {D : va_G} {N T : WS} {im : Nat → Option Nat} {ps mo op : Nat → Int32} {pn ta tb tw tp tn ka kf ks kc tot : Int32} {t : PH} {x w h c : Int32} : PM l D YX6_box 2 [.ref 0, .int x, .int w, .int h, .int c] (XH N im ps pn T ta tb tw tp tn ka kf ks kc mo op tot t) 0 0 (some (.int (cBoxR N x w h c))) (XH (cBoxN N x w h c) im ps pn T ta tb tw tp tn ka kf ks kc mo op tot t) := by
  refine pm_of2 (n0 := (t.length + 28)) kb_YX6_box rfl [some (.ref 0), some (.int x), some (.int w), some (.int h), some (.int c), none] (fun _ => rfl) (fun _ => (Nat.le_of_ble_eq_true rfl)) ?_
  refine w_iload_n dX6_box_0 rfl ?_
  refine w_callSr dX6_box_1 k_X6_70 (pm_X6_isBox) rfl rfl (Nat.le_of_ble_eq_true rfl) (Nat.le_of_ble_eq_true rfl) (Nat.le_of_ble_eq_true rfl) (rc00 rfl (Nat.le_refl 0)) ?_
  refine w_zif_ne (tgt := 9) dX6_box_4 (by decide) (fun c_4 => ?_) (fun c_4 => ?_)
  · skip
    refine w_iload_n dX6_box_9 rfl ?_
    refine w_iconst (v := 0) dX6_box_10 (by decide) ?_
    refine w_sipush (v := 255) dX6_box_11 (by decide) ?_
    refine w_callSr dX6_box_14 k_X6_52 (pm_X6_isWithin) rfl rfl (Nat.le_of_ble_eq_true rfl) (Nat.le_of_ble_eq_true rfl) (Nat.le_of_ble_eq_true rfl) (rc00 rfl (Nat.le_refl 0)) ?_
    refine w_zif_eq (tgt := 42) dX6_box_17 (by decide) (fun c_17 => ?_) (fun c_17 => ?_)
    · skip
      refine w_bipush (v := (-2)) dX6_box_42 (by decide) ?_
      exact w_iret dX6_box_44 rfl (by simp only [cBoxR, if_pos, if_neg, not_false_eq_true, if_true, if_false, Bool.false_eq_true, *]; try rfl) (by simp only [cBoxN, if_pos, if_neg, not_false_eq_true, if_true, if_false, Bool.false_eq_true, *]; try rfl) rfl (Nat.le_refl 0)
    · skip
      refine w_iload_n dX6_box_20 rfl ?_
      refine w_iconst (v := 0) dX6_box_21 (by decide) ?_
      refine w_bipush (v := 8) dX6_box_22 (by decide) ?_
      refine w_callSr dX6_box_24 k_X6_52 (pm_X6_isWithin) rfl rfl (Nat.le_of_ble_eq_true rfl) (Nat.le_of_ble_eq_true rfl) (Nat.le_of_ble_eq_true rfl) (rc00 rfl (Nat.le_refl 0)) ?_
      refine w_zif_eq (tgt := 42) dX6_box_27 (by decide) (fun c_27 => ?_) (fun c_27 => ?_)
      · skip
        refine w_bipush (v := (-2)) dX6_box_42 (by decide) ?_
        exact w_iret dX6_box_44 rfl (by simp only [cBoxR, if_pos, if_neg, not_false_eq_true, if_true, if_false, Bool.false_eq_true, *]; try rfl) (by simp only [cBoxN, if_pos, if_neg, not_false_eq_true, if_true, if_false, Bool.false_eq_true, *]; try rfl) rfl (Nat.le_refl 0)
      · skip
        refine w_iload dX6_box_30 rfl ?_
        refine w_iconst (v := 0) dX6_box_32 (by decide) ?_
        refine w_sipush (v := 999) dX6_box_33 (by decide) ?_
        refine w_callSr dX6_box_36 k_X6_52 (pm_X6_isWithin) rfl rfl (Nat.le_of_ble_eq_true rfl) (Nat.le_of_ble_eq_true rfl) (Nat.le_of_ble_eq_true rfl) (rc00 rfl (Nat.le_refl 0)) ?_
        refine w_zif_ne (tgt := 45) dX6_box_39 (by decide) (fun c_39 => ?_) (fun c_39 => ?_)
        · skip
          refine w_aload_n dX6_box_45 rfl ?_
          refine w_get dX6_box_46 f_X6_10 rfl rfl ?_
          refine w_get dX6_box_49 f_X6_73 rfl rfl ?_
          refine w_iload_n dX6_box_52 rfl ?_
          refine w_iald dX6_box_53 rfl (vin_box (by assumption)) ?_
          refine w_istore_5 dX6_box_54 (Nat.le_of_ble_eq_true rfl) rfl ?_
          refine w_aload_n dX6_box_56 rfl ?_
          refine w_get dX6_box_57 f_X6_10 rfl rfl ?_
          refine w_get dX6_box_60 f_X6_77 rfl rfl ?_
          refine w_iload_n dX6_box_63 rfl ?_
          refine w_iload_n dX6_box_64 rfl ?_
          refine x_aN5 dX6_box_65 (vin_box (by assumption)) ?_
          refine w_aload_n dX6_box_66 rfl ?_
          refine w_get dX6_box_67 f_X6_10 rfl rfl ?_
          refine w_get dX6_box_70 f_X6_80 rfl rfl ?_
          refine w_iload_n dX6_box_73 rfl ?_
          refine w_iload_n dX6_box_74 rfl ?_
          refine x_aN6 dX6_box_75 (vin_box (by assumption)) ?_
          refine w_aload_n dX6_box_76 rfl ?_
          refine w_get dX6_box_77 f_X6_10 rfl rfl ?_
          refine w_get dX6_box_80 f_X6_73 rfl rfl ?_
          refine w_iload_n dX6_box_83 rfl ?_
          refine w_iload dX6_box_84 rfl ?_
          refine x_aN7 dX6_box_86 (vin_box (by assumption)) ?_
          refine w_iload dX6_box_87 rfl ?_
          exact w_iret dX6_box_89 rfl (by simp only [cBoxR, if_pos, if_neg, not_false_eq_true, if_true, if_false, Bool.false_eq_true, *]; try rfl) (by simp only [cBoxN, if_pos, if_neg, not_false_eq_true, if_true, if_false, Bool.false_eq_true, *]; try rfl) rfl (Nat.le_refl 0)
        · skip
          refine w_bipush (v := (-2)) dX6_box_42 (by decide) ?_
          exact w_iret dX6_box_44 rfl (by simp only [cBoxR, if_pos, if_neg, not_false_eq_true, if_true, if_false, Bool.false_eq_true, *]; try rfl) (by simp only [cBoxN, if_pos, if_neg, not_false_eq_true, if_true, if_false, Bool.false_eq_true, *]; try rfl) rfl (Nat.le_refl 0)
  · skip
    refine w_iconst (v := (-1)) dX6_box_7 (by decide) ?_
    exact w_iret dX6_box_8 rfl (by simp only [cBoxR, if_pos, if_neg, not_false_eq_true, if_true, if_false, Bool.false_eq_true, *]; try rfl) (by simp only [cBoxN, if_pos, if_neg, not_false_eq_true, if_true, if_false, Bool.false_eq_true, *]; try rfl) rfl (Nat.le_refl 0)

set_option maxRecDepth 100000 in
set_option maxHeartbeats 4000000 in
theorem pm_X6_say {l : Launch} {D : va_G} {N T : WS} {im : Nat → Option Nat} {ps mo op : Nat → Int32} {pn ta tb tw tp tn ka kf ks kc tot : Int32} {t : PH} {g : Int32} (hp : 0 ≤ pn) : PM l D YX6_say 2 [.ref 0, .int g] (XH N im ps pn T ta tb tw tp tn ka kf ks kc mo op tot t) 0 0 (some (.int (cSayR pn g))) (XH N im (cSayP ps pn g) (cSayN pn g) T ta tb tw tp tn ka kf ks kc mo op tot t) := by
  refine pm_of2 (n0 := (t.length + 28)) kb_YX6_say rfl [some (.ref 0), some (.int g)] (fun _ => rfl) (fun _ => (Nat.le_of_ble_eq_true rfl)) ?_
  refine w_iload_n dX6_say_0 rfl ?_
  refine w_bipush (v := 33) dX6_say_1 (by decide) ?_
  refine w_bipush (v := 126) dX6_say_3 (by decide) ?_
  refine w_callSr dX6_say_5 k_X6_52 (pm_X6_isWithin) rfl rfl (Nat.le_of_ble_eq_true rfl) (Nat.le_of_ble_eq_true rfl) (Nat.le_of_ble_eq_true rfl) (rc00 rfl (Nat.le_refl 0)) ?_
  refine w_zif_ne (tgt := 14) dX6_say_8 (by decide) (fun c_8 => ?_) (fun c_8 => ?_)
  · skip
    refine w_aload_n dX6_say_14 rfl ?_
    refine w_get dX6_say_15 f_X6_23 rfl rfl ?_
    refine w_iload_n dX6_say_18 rfl ?_
    refine w_callVr dX6_say_19 k_X6_83 (pm_X3_put hp) rfl rfl rfl rfl (Nat.le_of_ble_eq_true rfl) (Nat.le_of_ble_eq_true rfl) (Nat.le_of_ble_eq_true rfl) (rc00 rfl (Nat.le_refl 0)) ?_
    refine w_ztif_eq (a := ?a22_1) (b := ?b22_1) (pJ := 37) (tgt := 35) dX6_say_22 (by decide) (fun c_22 k => ?hA22_1) (fun c_22 k => ?hB22_1) ?hk22_1
    case hA22_1 =>
      refine w_bipush (v := (-4)) dX6_say_35 (by decide) ?_
      exact k
    case hB22_1 =>
      refine w_aload_n dX6_say_25 rfl ?_
      refine w_get dX6_say_26 f_X6_23 rfl rfl ?_
      refine w_get dX6_say_29 f_X6_86 rfl rfl ?_
      refine w_goto (tgt := 37) dX6_say_32 (by decide) ?_
      exact k
    exact w_iret dX6_say_37 rfl (by by_cases hq : pn < 60 <;> simp [cSayR, *]) (by simp only [cSayP, cSayN, if_pos, if_neg, not_false_eq_true, if_true, if_false, Bool.false_eq_true, *]; try rfl) rfl (Nat.le_refl 0)
  · skip
    refine w_bipush (v := (-2)) dX6_say_11 (by decide) ?_
    exact w_iret dX6_say_13 rfl (by by_cases hq : pn < 60 <;> simp [cSayR, *]) (by simp only [cSayP, cSayN, if_pos, if_neg, not_false_eq_true, if_true, if_false, Bool.false_eq_true, *]; try rfl) rfl (Nat.le_refl 0)

set_option maxRecDepth 100000 in
set_option maxHeartbeats 4000000 in
theorem pm_X6_wipe {l : Launch} {D : va_G} {N T : WS} {im : Nat → Option Nat} {ps mo op : Nat → Int32} {pn ta tb tw tp tn ka kf ks kc tot : Int32} {t : PH}  : PM l D YX6_wipe 1 [.ref 0] (XH N im ps pn T ta tb tw tp tn ka kf ks kc mo op tot t) 0 0 (some (.int pn)) (XH N im ps 0 T ta tb tw tp tn ka kf ks kc mo op tot t) := by
  refine pm_of2 (n0 := (t.length + 28)) kb_YX6_wipe rfl [some (.ref 0), none] (fun _ => rfl) (fun _ => (Nat.le_of_ble_eq_true rfl)) ?_
  refine w_aload_n dX6_wipe_0 rfl ?_
  refine w_get dX6_wipe_1 f_X6_23 rfl rfl ?_
  refine w_get dX6_wipe_4 f_X6_86 rfl rfl ?_
  refine w_istore_1 dX6_wipe_7 (Nat.le_of_ble_eq_true rfl) rfl ?_
  refine w_aload_n dX6_wipe_8 rfl ?_
  refine w_get dX6_wipe_9 f_X6_23 rfl rfl ?_
  refine w_iconst (v := 0) dX6_wipe_12 (by decide) ?_
  refine x_pP1 dX6_wipe_13 f_X6_86 ?_
  refine w_iload_n dX6_wipe_16 rfl ?_
  exact w_iret dX6_wipe_17 rfl rfl rfl rfl (Nat.le_refl 0)

set_option maxRecDepth 100000 in
set_option maxHeartbeats 4000000 in
theorem pm_X6_fault {l : Launch} {D : va_G} {N T : WS} {im : Nat → Option Nat} {ps mo op : Nat → Int32} {pn ta tb tw tp tn ka kf ks kc tot : Int32} {t : PH} {c : Nat} (hc : c ≤ 60) (hpn : pn = nI c) : PM l D YX6_fault 4 [.ref 0] (XH N im ps pn T ta tb tw tp tn ka kf ks kc mo op tot t) 0 0 (some (.int (fgo ps pn c 0 0))) (XH N im ps pn T ta tb tw tp tn ka kf ks kc mo op tot t) := by
  refine pm_of2 (n0 := (t.length + 28)) kb_YX6_fault rfl [some (.ref 0)] (fun _ => rfl) (fun _ => (Nat.le_of_ble_eq_true rfl)) ?_
  refine w_aload_n dX6_fault_0 rfl ?_
  refine w_get dX6_fault_1 f_X6_23 rfl rfl ?_
  refine w_callVr dX6_fault_4 k_X6_89 (pm_X3_faultPlace hc hpn) rfl rfl rfl rfl (Nat.le_of_ble_eq_true rfl) (Nat.le_of_ble_eq_true rfl) (Nat.le_of_ble_eq_true rfl) (rc00 rfl (Nat.le_refl 0)) ?_
  exact w_iret dX6_fault_7 rfl rfl rfl rfl (Nat.le_refl 0)

set_option maxRecDepth 100000 in
set_option maxHeartbeats 4000000 in
theorem pm_X6_yearsCanBe {l : Launch} {D : va_G} {N T : WS} {im : Nat → Option Nat} {ps mo op : Nat → Int32} {pn ta tb tw tp tn ka kf ks kc tot : Int32} {t : PH} {c : Nat} (hc : c ≤ 60) (hpn : pn = nI c) : PM l D YX6_yearsCanBe 7 [.ref 0] (XH N im ps pn T ta tb tw tp tn ka kf ks kc mo op tot t) 0 0 (some (.int (b2i (cYr N T ps pn c ka kf ks kc)))) (XF N im ps pn (cYq N T ps pn c ta tb tw tp tn ka kf ks kc) mo op tot t) := by
  have hp : pn ≤ 60 := by rw [hpn]; exact nI_le hc (by decide)
  refine pm_of2 (n0 := (t.length + 28)) kb_YX6_yearsCanBe rfl [some (.ref 0)] (fun _ => rfl) (fun _ => (Nat.le_of_ble_eq_true rfl)) ?_
  refine w_aload_n dX6_yearsCanBe_0 rfl ?_
  refine w_get dX6_yearsCanBe_1 f_X6_23 rfl rfl ?_
  refine w_callVr dX6_yearsCanBe_4 k_X6_89 (pm_X3_faultPlace hc hpn) rfl rfl rfl rfl (Nat.le_of_ble_eq_true rfl) (Nat.le_of_ble_eq_true rfl) (Nat.le_of_ble_eq_true rfl) (rc00 rfl (Nat.le_refl 0)) ?_
  refine w_bipush (v := (-6)) dX6_yearsCanBe_7 (by decide) ?_
  refine w_icmp_eq (tgt := 14) dX6_yearsCanBe_9 (by decide) (fun c_9 => ?_) (fun c_9 => ?_)
  · skip
    refine w_aload_n dX6_yearsCanBe_14 rfl ?_
    refine w_get dX6_yearsCanBe_15 f_X6_30 rfl rfl ?_
    refine w_aload_n dX6_yearsCanBe_18 rfl ?_
    refine w_get dX6_yearsCanBe_19 f_X6_10 rfl rfl ?_
    refine w_aload_n dX6_yearsCanBe_22 rfl ?_
    refine w_get dX6_yearsCanBe_23 f_X6_23 rfl rfl ?_
    refine w_callVv dX6_yearsCanBe_26 k_X6_93 (pm_X4_followPad hp) rfl rfl rfl rfl (Nat.le_of_ble_eq_true rfl) (Nat.le_of_ble_eq_true rfl) (Nat.le_of_ble_eq_true rfl) (rc00 rfl (Nat.le_refl 0)) ?_
    refine w_aload_n dX6_yearsCanBe_29 rfl ?_
    refine w_get dX6_yearsCanBe_30 f_X6_30 rfl rfl ?_
    refine w_get dX6_yearsCanBe_33 f_X6_97 rfl rfl ?_
    refine w_bipush (v := (-6)) dX6_yearsCanBe_36 (by decide) ?_
    refine w_ticmp_ne (a := ?a38_1) (b := ?b38_1) (pJ := 46) (tgt := 45) dX6_yearsCanBe_38 (by decide) (fun c_38 k => ?hA38_1) (fun c_38 k => ?hB38_1) ?hk38_1
    case hA38_1 =>
      refine w_iconst (v := 0) dX6_yearsCanBe_45 (by decide) ?_
      exact k
    case hB38_1 =>
      refine w_iconst (v := 1) dX6_yearsCanBe_41 (by decide) ?_
      refine w_goto (tgt := 46) dX6_yearsCanBe_42 (by decide) ?_
      exact k
    exact w_zretb dX6_yearsCanBe_46 rfl (by first | (simp only [cYr, c_9, decide_true, Bool.true_and]; exact e_dec _) | (simp [cYr, b2i, c_9]; done)) (by simp only [cYq, if_pos, if_neg, not_false_eq_true, c_9]; try rfl) rfl (Nat.le_refl 0)
  · skip
    refine w_iconst (v := 0) dX6_yearsCanBe_12 (by decide) ?_
    exact w_zretb dX6_yearsCanBe_13 rfl (by first | (simp only [cYr, c_9, decide_true, Bool.true_and]; exact e_dec _) | (simp [cYr, b2i, c_9]; done)) (by simp only [cYq, if_pos, if_neg, not_false_eq_true, c_9]; try rfl) rfl (Nat.le_refl 0)

def cJuR (N T : WS) (ps : Nat → Int32) (pn : Int32) (c : Nat) (ka kf ks kc w : Int32) : Int32 := if sIn w 0 1 then (if fgo ps pn c 0 0 = -6 then (if w = 0 then (cFol N T ps pn ka kf ks kc).2.2.1 else (cFol N T ps pn ka kf ks kc).2.2.2.1) else -5) else -2
def cJuQ (N T : WS) (ps : Nat → Int32) (pn : Int32) (c : Nat) (ta tb tw tp tn ka kf ks kc w : Int32) : FR := if sIn w 0 1 then cYq N T ps pn c ta tb tw tp tn ka kf ks kc else (T, ta, tb, tw, tp, tn, ka, kf, ks, kc)
def cDoR (N T : WS) (ps : Nat → Int32) (pn : Int32) (c : Nat) (ka kf ks kc : Int32) : Int32 := if cYr N T ps pn c ka kf ks kc then (cFol N T ps pn ka kf ks kc).2.1 else -5
def cDoN (N T : WS) (ps : Nat → Int32) (pn : Int32) (c : Nat) (ka kf ks kc : Int32) : WS := if cYr N T ps pn c ka kf ks kc then sCpy N (cFol N T ps pn ka kf ks kc).1 else N
def cDoP (N T : WS) (ps : Nat → Int32) (pn : Int32) (c : Nat) (ka kf ks kc : Int32) : Int32 := if cYr N T ps pn c ka kf ks kc then 0 else pn
def cBeR (N T : WS) (ps : Nat → Int32) (pn : Int32) (c : Nat) (ka kf ks kc s w : Int32) : Int32 := if sSoul s then (if sIn w 0 3 then (if cYr N T ps pn c ka kf ks kc then (if w = 0 then b2i (sLiv (cFol N T ps pn ka kf ks kc).1 s) else if w = 1 then wmk (cFol N T ps pn ka kf ks kc).1 s.toNatClampNeg else if w = 2 then wpu (cFol N T ps pn ka kf ks kc).1 s.toNatClampNeg else wwa (cFol N T ps pn ka kf ks kc).1 s.toNatClampNeg) else -5) else -2) else -1
def cBeQ (N T : WS) (ps : Nat → Int32) (pn : Int32) (c : Nat) (ta tb tw tp tn ka kf ks kc s w : Int32) : FR := if sSoul s then (if sIn w 0 3 then cYq N T ps pn c ta tb tw tp tn ka kf ks kc else (T, ta, tb, tw, tp, tn, ka, kf, ks, kc)) else (T, ta, tb, tw, tp, tn, ka, kf, ks, kc)
def cThR (N T : WS) (ps : Nat → Int32) (pn : Int32) (c : Nat) (ka kf ks kc w : Int32) : Int32 := if sIn w 0 3 then (if cYr N T ps pn c ka kf ks kc then (if w = 0 then wlv (cFol N T ps pn ka kf ks kc).1 else if w = 1 then wyr (cFol N T ps pn ka kf ks kc).1 else if w = 2 then (cFol N T ps pn ka kf ks kc).2.2.2.2.1 else (cFol N T ps pn ka kf ks kc).2.2.2.2.2.1) else -5) else -2
def cThQ (N T : WS) (ps : Nat → Int32) (pn : Int32) (c : Nat) (ta tb tw tp tn ka kf ks kc w : Int32) : FR := if sIn w 0 3 then cYq N T ps pn c ta tb tw tp tn ka kf ks kc else (T, ta, tb, tw, tp, tn, ka, kf, ks, kc)
theorem yq_t {N T : WS} {ps : Nat → Int32} {pn : Int32} {c : Nat} {ta tb tw tp tn ka kf ks kc : Int32} (h : cYr N T ps pn c ka kf ks kc = true) : cYq N T ps pn c ta tb tw tp tn ka kf ks kc = cFol N T ps pn ka kf ks kc := by
  simp only [cYr, Bool.and_eq_true, decide_eq_true_eq] at h
  rw [cYq, if_pos h.1]
theorem in03 {w : Int32} (h : sIn w 0 3 = true) : w = 0 ∨ w = 1 ∨ w = 2 ∨ w = 3 := by
  obtain ⟨k, hk, rfl⟩ := in_nI 3 rfl (by decide) (by decide) h
  match k, hk with
  | 0, _ => exact Or.inl rfl
  | 1, _ => exact Or.inr (Or.inl rfl)
  | 2, _ => exact Or.inr (Or.inr (Or.inl rfl))
  | 3, _ => exact Or.inr (Or.inr (Or.inr rfl))
set_option maxRecDepth 100000 in
set_option maxHeartbeats 4000000 in
theorem pm_X6_judge {l : Launch} {D : va_G} {N T : WS} {im : Nat → Option Nat} {ps mo op : Nat → Int32} {pn ta tb tw tp tn ka kf ks kc tot : Int32} {t : PH} {c : Nat} (hc : c ≤ 60) (hpn : pn = nI c) {w : Int32} : PM l D YX6_judge 7 [.ref 0, .int w] (XH N im ps pn T ta tb tw tp tn ka kf ks kc mo op tot t) 0 0 (some (.int (cJuR N T ps pn c ka kf ks kc w))) (XF N im ps pn (cJuQ N T ps pn c ta tb tw tp tn ka kf ks kc w) mo op tot t) := by
  have hp : pn ≤ 60 := by rw [hpn]; exact nI_le hc (by decide)
  refine pm_of2 (n0 := (t.length + 28)) kb_YX6_judge rfl [some (.ref 0), some (.int w)] (fun _ => rfl) (fun _ => (Nat.le_of_ble_eq_true rfl)) ?_
  refine w_iload_n dX6_judge_0 rfl ?_
  refine w_iconst (v := 0) dX6_judge_1 (by decide) ?_
  refine w_iconst (v := 1) dX6_judge_2 (by decide) ?_
  refine w_callSr dX6_judge_3 k_X6_52 (pm_X6_isWithin) rfl rfl (Nat.le_of_ble_eq_true rfl) (Nat.le_of_ble_eq_true rfl) (Nat.le_of_ble_eq_true rfl) (rc00 rfl (Nat.le_refl 0)) ?_
  refine w_zif_ne (tgt := 12) dX6_judge_6 (by decide) (fun c_6 => ?_) (fun c_6 => ?_)
  · skip
    refine w_aload_n dX6_judge_12 rfl ?_
    refine w_get dX6_judge_13 f_X6_23 rfl rfl ?_
    refine w_callVr dX6_judge_16 k_X6_89 (pm_X3_faultPlace hc hpn) rfl rfl rfl rfl (Nat.le_of_ble_eq_true rfl) (Nat.le_of_ble_eq_true rfl) (Nat.le_of_ble_eq_true rfl) (rc00 rfl (Nat.le_refl 0)) ?_
    refine w_bipush (v := (-6)) dX6_judge_19 (by decide) ?_
    refine w_icmp_eq (tgt := 27) dX6_judge_21 (by decide) (fun c_21 => ?_) (fun c_21 => ?_)
    · skip
      refine w_aload_n dX6_judge_27 rfl ?_
      refine w_get dX6_judge_28 f_X6_30 rfl rfl ?_
      refine w_aload_n dX6_judge_31 rfl ?_
      refine w_get dX6_judge_32 f_X6_10 rfl rfl ?_
      refine w_aload_n dX6_judge_35 rfl ?_
      refine w_get dX6_judge_36 f_X6_23 rfl rfl ?_
      refine w_callVv dX6_judge_39 k_X6_93 (pm_X4_followPad hp) rfl rfl rfl rfl (Nat.le_of_ble_eq_true rfl) (Nat.le_of_ble_eq_true rfl) (Nat.le_of_ble_eq_true rfl) (rc00 rfl (Nat.le_refl 0)) ?_
      refine w_iload_n dX6_judge_42 rfl ?_
      refine w_tif_ne (a := ?a43_1) (b := ?b43_1) (pJ := 63) (tgt := 56) dX6_judge_43 (by decide) (fun c_43 k => ?hA43_1) (fun c_43 k => ?hB43_1) ?hk43_1
      case hA43_1 =>
        refine w_aload_n dX6_judge_56 rfl ?_
        refine w_get dX6_judge_57 f_X6_30 rfl rfl ?_
        refine w_get dX6_judge_60 f_X6_100 rfl rfl ?_
        exact k
      case hB43_1 =>
        refine w_aload_n dX6_judge_46 rfl ?_
        refine w_get dX6_judge_47 f_X6_30 rfl rfl ?_
        refine w_get dX6_judge_50 f_X6_97 rfl rfl ?_
        refine w_goto (tgt := 63) dX6_judge_53 (by decide) ?_
        exact k
      exact w_iret dX6_judge_63 rfl (by simp only [cJuR, if_pos, if_neg, not_false_eq_true, if_true, if_false, Bool.false_eq_true, c_6, c_21]; try rfl) (by simp only [cJuQ, cYq, if_pos, if_neg, not_false_eq_true, if_true, if_false, Bool.false_eq_true, c_6, c_21]; try rfl) rfl (Nat.le_refl 0)
    · skip
      refine w_bipush (v := (-5)) dX6_judge_24 (by decide) ?_
      exact w_iret dX6_judge_26 rfl (by simp only [cJuR, if_pos, if_neg, not_false_eq_true, if_true, if_false, Bool.false_eq_true, c_6, c_21]; try rfl) (by simp only [cJuQ, cYq, if_pos, if_neg, not_false_eq_true, if_true, if_false, Bool.false_eq_true, c_6, c_21]; try rfl) rfl (Nat.le_refl 0)
  · skip
    refine w_bipush (v := (-2)) dX6_judge_9 (by decide) ?_
    exact w_iret dX6_judge_11 rfl (by simp only [cJuR, if_pos, if_neg, not_false_eq_true, if_true, if_false, Bool.false_eq_true, c_6]; try rfl) (by simp only [cJuQ, cYq, if_pos, if_neg, not_false_eq_true, if_true, if_false, Bool.false_eq_true, c_6]; try rfl) rfl (Nat.le_refl 0)

set_option maxRecDepth 100000 in
set_option maxHeartbeats 4000000 in
theorem pm_X6_done {l : Launch} {D : va_G} {N T : WS} {im : Nat → Option Nat} {ps mo op : Nat → Int32} {pn ta tb tw tp tn ka kf ks kc tot : Int32} {t : PH} {c : Nat} (hc : c ≤ 60) (hpn : pn = nI c) : PM l D YX6_done 8 [.ref 0] (XH N im ps pn T ta tb tw tp tn ka kf ks kc mo op tot t) 0 0 (some (.int (cDoR N T ps pn c ka kf ks kc))) (XF (cDoN N T ps pn c ka kf ks kc) im ps (cDoP N T ps pn c ka kf ks kc) (cYq N T ps pn c ta tb tw tp tn ka kf ks kc) mo op tot t) := by
  have hp : pn ≤ 60 := by rw [hpn]; exact nI_le hc (by decide)
  refine pm_of2 (n0 := (t.length + 28)) kb_YX6_done rfl [some (.ref 0)] (fun _ => rfl) (fun _ => (Nat.le_of_ble_eq_true rfl)) ?_
  refine w_aload_n dX6_done_0 rfl ?_
  refine w_callVr dX6_done_1 k_X6_103 (pm_X6_yearsCanBe hc hpn) rfl rfl rfl rfl (Nat.le_of_ble_eq_true rfl) (Nat.le_of_ble_eq_true rfl) (Nat.le_of_ble_eq_true rfl) (rc00 rfl (Nat.le_refl 0)) ?_
  refine w_zif_ne (tgt := 10) dX6_done_4 (by decide) (fun c_4 => ?_) (fun c_4 => ?_)
  · skip
    refine w_aload_n dX6_done_10 rfl ?_
    refine w_get dX6_done_11 f_X6_10 rfl rfl ?_
    refine w_aload_n dX6_done_14 rfl ?_
    refine w_get dX6_done_15 f_X6_30 rfl rfl ?_
    refine w_get dX6_done_18 f_X6_107 rfl rfl ?_
    refine w_callVv dX6_done_21 k_X6_110 (xN_copyFrom) rfl rfl rfl rfl (Nat.le_of_ble_eq_true rfl) (Nat.le_of_ble_eq_true rfl) (Nat.le_of_ble_eq_true rfl) (rc00 rfl (Nat.le_refl 0)) ?_
    refine w_aload_n dX6_done_24 rfl ?_
    refine w_get dX6_done_25 f_X6_23 rfl rfl ?_
    refine w_iconst (v := 0) dX6_done_28 (by decide) ?_
    refine x_pP1 dX6_done_29 f_X6_86 ?_
    refine w_aload_n dX6_done_32 rfl ?_
    refine w_get dX6_done_33 f_X6_30 rfl rfl ?_
    refine w_get dX6_done_36 f_X6_114 rfl rfl ?_
    exact w_iret dX6_done_39 rfl (by first | (rw [cDoR, if_pos c_4, yq_t c_4]) | (simp only [cDoR, c_4]; rfl)) (by first | (rw [cDoN, cDoP, if_pos c_4, if_pos c_4, yq_t c_4]; rfl) | (simp only [cDoN, cDoP, c_4]; rfl)) rfl (Nat.le_refl 0)
  · skip
    refine w_bipush (v := (-5)) dX6_done_7 (by decide) ?_
    exact w_iret dX6_done_9 rfl (by first | (rw [cDoR, if_pos c_4, yq_t c_4]) | (simp only [cDoR, c_4]; rfl)) (by first | (rw [cDoN, cDoP, if_pos c_4, if_pos c_4, yq_t c_4]; rfl) | (simp only [cDoN, cDoP, c_4]; rfl)) rfl (Nat.le_refl 0)

set_option maxRecDepth 100000 in
set_option maxHeartbeats 4000000 in
theorem pm_X6_behind {l : Launch} {D : va_G} {N T : WS} {im : Nat → Option Nat} {ps mo op : Nat → Int32} {pn ta tb tw tp tn ka kf ks kc tot : Int32} {t : PH} {c : Nat} (hc : c ≤ 60) (hpn : pn = nI c) {s w : Int32} : PM l D YX6_behind 8 [.ref 0, .int s, .int w] (XH N im ps pn T ta tb tw tp tn ka kf ks kc mo op tot t) 0 0 (some (.int (cBeR N T ps pn c ka kf ks kc s w))) (XF N im ps pn (cBeQ N T ps pn c ta tb tw tp tn ka kf ks kc s w) mo op tot t) := by
  have hp : pn ≤ 60 := by rw [hpn]; exact nI_le hc (by decide)
  refine pm_of2 (n0 := (t.length + 28)) kb_YX6_behind rfl [some (.ref 0), some (.int s), some (.int w)] (fun _ => rfl) (fun _ => (Nat.le_of_ble_eq_true rfl)) ?_
  refine w_iload_n dX6_behind_0 rfl ?_
  refine w_callSr dX6_behind_1 k_X6_48 (pm_X6_isSoul) rfl rfl (Nat.le_of_ble_eq_true rfl) (Nat.le_of_ble_eq_true rfl) (Nat.le_of_ble_eq_true rfl) (rc00 rfl (Nat.le_refl 0)) ?_
  refine w_zif_ne (tgt := 9) dX6_behind_4 (by decide) (fun c_4 => ?_) (fun c_4 => ?_)
  · skip
    refine w_iload_n dX6_behind_9 rfl ?_
    refine w_iconst (v := 0) dX6_behind_10 (by decide) ?_
    refine w_iconst (v := 3) dX6_behind_11 (by decide) ?_
    refine w_callSr dX6_behind_12 k_X6_52 (pm_X6_isWithin) rfl rfl (Nat.le_of_ble_eq_true rfl) (Nat.le_of_ble_eq_true rfl) (Nat.le_of_ble_eq_true rfl) (rc00 rfl (Nat.le_refl 0)) ?_
    refine w_zif_ne (tgt := 21) dX6_behind_15 (by decide) (fun c_15 => ?_) (fun c_15 => ?_)
    · skip
      refine w_aload_n dX6_behind_21 rfl ?_
      refine w_callVr dX6_behind_22 k_X6_103 (pm_X6_yearsCanBe hc hpn) rfl rfl rfl rfl (Nat.le_of_ble_eq_true rfl) (Nat.le_of_ble_eq_true rfl) (Nat.le_of_ble_eq_true rfl) (rc00 rfl (Nat.le_refl 0)) ?_
      refine w_zif_ne (tgt := 31) dX6_behind_25 (by decide) (fun c_25 => ?_) (fun c_25 => ?_)
      · skip
        rcases in03 (by assumption) with rfl | rfl | rfl | rfl
        · skip
          refine w_iload_n dX6_behind_31 rfl ?_
          refine w_tableIn (tgt := 60) dX6_behind_32 (by decide) (by decide) rfl (by decide) ?_
          refine w_aload_n dX6_behind_60 rfl ?_
          refine w_get dX6_behind_61 f_X6_30 rfl rfl ?_
          refine w_get dX6_behind_64 f_X6_107 rfl rfl ?_
          refine w_iload_n dX6_behind_67 rfl ?_
          refine w_callVr dX6_behind_68 k_X6_117 (xT_isLiving) rfl rfl rfl rfl (Nat.le_of_ble_eq_true rfl) (Nat.le_of_ble_eq_true rfl) (Nat.le_of_ble_eq_true rfl) (rc00 rfl (Nat.le_refl 0)) ?_
          refine w_ztif_eq (a := ?a71_1) (b := ?b71_1) (pJ := 79) (tgt := 78) dX6_behind_71 (by decide) (fun c_71 k => ?hA71_1) (fun c_71 k => ?hB71_1) ?hk71_1
          case hA71_1 =>
            refine w_iconst (v := 0) dX6_behind_78 (by decide) ?_
            exact k
          case hB71_1 =>
            refine w_iconst (v := 1) dX6_behind_74 (by decide) ?_
            refine w_goto (tgt := 79) dX6_behind_75 (by decide) ?_
            exact k
          exact w_iret dX6_behind_79 rfl (by rw [cBeR, if_pos c_4, if_pos c_15, if_pos c_25, yq_t c_25]; first | rfl | (cases sLiv (cFol N T ps pn ka kf ks kc).1 s <;> rfl)) (by rw [cBeQ, if_pos c_4, if_pos c_15]; try rfl) rfl (Nat.le_refl 0)
        · skip
          refine w_iload_n dX6_behind_31 rfl ?_
          refine w_tableIn (tgt := 80) dX6_behind_32 (by decide) (by decide) rfl (by decide) ?_
          refine w_aload_n dX6_behind_80 rfl ?_
          refine w_get dX6_behind_81 f_X6_30 rfl rfl ?_
          refine w_get dX6_behind_84 f_X6_107 rfl rfl ?_
          refine w_get dX6_behind_87 f_X6_120 rfl rfl ?_
          refine w_iload_n dX6_behind_90 rfl ?_
          refine w_iald dX6_behind_91 rfl (vin_soul c_4) ?_
          exact w_iret dX6_behind_92 rfl (by rw [cBeR, if_pos c_4, if_pos c_15, if_pos c_25, yq_t c_25]; first | rfl | (cases sLiv (cFol N T ps pn ka kf ks kc).1 s <;> rfl)) (by rw [cBeQ, if_pos c_4, if_pos c_15]; try rfl) rfl (Nat.le_refl 0)
        · skip
          refine w_iload_n dX6_behind_31 rfl ?_
          refine w_tableIn (tgt := 93) dX6_behind_32 (by decide) (by decide) rfl (by decide) ?_
          refine w_aload_n dX6_behind_93 rfl ?_
          refine w_get dX6_behind_94 f_X6_30 rfl rfl ?_
          refine w_get dX6_behind_97 f_X6_107 rfl rfl ?_
          refine w_get dX6_behind_100 f_X6_123 rfl rfl ?_
          refine w_iload_n dX6_behind_103 rfl ?_
          refine w_iald dX6_behind_104 rfl (vin_soul c_4) ?_
          exact w_iret dX6_behind_105 rfl (by rw [cBeR, if_pos c_4, if_pos c_15, if_pos c_25, yq_t c_25]; first | rfl | (cases sLiv (cFol N T ps pn ka kf ks kc).1 s <;> rfl)) (by rw [cBeQ, if_pos c_4, if_pos c_15]; try rfl) rfl (Nat.le_refl 0)
        · skip
          refine w_iload_n dX6_behind_31 rfl ?_
          refine w_tableOut (tgt := 106) dX6_behind_32 (by decide) (by decide) ?_
          refine w_aload_n dX6_behind_106 rfl ?_
          refine w_get dX6_behind_107 f_X6_30 rfl rfl ?_
          refine w_get dX6_behind_110 f_X6_107 rfl rfl ?_
          refine w_get dX6_behind_113 f_X6_126 rfl rfl ?_
          refine w_iload_n dX6_behind_116 rfl ?_
          refine w_iald dX6_behind_117 rfl (vin_soul c_4) ?_
          exact w_iret dX6_behind_118 rfl (by rw [cBeR, if_pos c_4, if_pos c_15, if_pos c_25, yq_t c_25]; first | rfl | (cases sLiv (cFol N T ps pn ka kf ks kc).1 s <;> rfl)) (by rw [cBeQ, if_pos c_4, if_pos c_15]; try rfl) rfl (Nat.le_refl 0)
      · skip
        refine w_bipush (v := (-5)) dX6_behind_28 (by decide) ?_
        exact w_iret dX6_behind_30 rfl (by simp only [cBeR, if_pos, if_neg, not_false_eq_true, if_true, if_false, Bool.false_eq_true, c_4, c_15, c_25]; try rfl) (by simp only [cBeQ, if_pos, if_neg, not_false_eq_true, if_true, if_false, Bool.false_eq_true, c_4, c_15, c_25]; try rfl) rfl (Nat.le_refl 0)
    · skip
      refine w_bipush (v := (-2)) dX6_behind_18 (by decide) ?_
      exact w_iret dX6_behind_20 rfl (by simp only [cBeR, if_pos, if_neg, not_false_eq_true, if_true, if_false, Bool.false_eq_true, c_4, c_15]; try rfl) (by simp only [cBeQ, if_pos, if_neg, not_false_eq_true, if_true, if_false, Bool.false_eq_true, c_4, c_15]; try rfl) rfl (Nat.le_refl 0)
  · skip
    refine w_iconst (v := (-1)) dX6_behind_7 (by decide) ?_
    exact w_iret dX6_behind_8 rfl (by simp only [cBeR, if_pos, if_neg, not_false_eq_true, if_true, if_false, Bool.false_eq_true, c_4]; try rfl) (by simp only [cBeQ, if_pos, if_neg, not_false_eq_true, if_true, if_false, Bool.false_eq_true, c_4]; try rfl) rfl (Nat.le_refl 0)

set_option maxRecDepth 100000 in
set_option maxHeartbeats 4000000 in
theorem pm_X6_then {l : Launch} {D : va_G} {N T : WS} {im : Nat → Option Nat} {ps mo op : Nat → Int32} {pn ta tb tw tp tn ka kf ks kc tot : Int32} {t : PH} {c : Nat} (hc : c ≤ 60) (hpn : pn = nI c) {w : Int32} : PM l D YX6_then 8 [.ref 0, .int w] (XH N im ps pn T ta tb tw tp tn ka kf ks kc mo op tot t) 0 0 (some (.int (cThR N T ps pn c ka kf ks kc w))) (XF N im ps pn (cThQ N T ps pn c ta tb tw tp tn ka kf ks kc w) mo op tot t) := by
  have hp : pn ≤ 60 := by rw [hpn]; exact nI_le hc (by decide)
  refine pm_of2 (n0 := (t.length + 28)) kb_YX6_then rfl [some (.ref 0), some (.int w)] (fun _ => rfl) (fun _ => (Nat.le_of_ble_eq_true rfl)) ?_
  refine w_iload_n dX6_then_0 rfl ?_
  refine w_iconst (v := 0) dX6_then_1 (by decide) ?_
  refine w_iconst (v := 3) dX6_then_2 (by decide) ?_
  refine w_callSr dX6_then_3 k_X6_52 (pm_X6_isWithin) rfl rfl (Nat.le_of_ble_eq_true rfl) (Nat.le_of_ble_eq_true rfl) (Nat.le_of_ble_eq_true rfl) (rc00 rfl (Nat.le_refl 0)) ?_
  refine w_zif_ne (tgt := 12) dX6_then_6 (by decide) (fun c_6 => ?_) (fun c_6 => ?_)
  · skip
    refine w_aload_n dX6_then_12 rfl ?_
    refine w_callVr dX6_then_13 k_X6_103 (pm_X6_yearsCanBe hc hpn) rfl rfl rfl rfl (Nat.le_of_ble_eq_true rfl) (Nat.le_of_ble_eq_true rfl) (Nat.le_of_ble_eq_true rfl) (rc00 rfl (Nat.le_refl 0)) ?_
    refine w_zif_ne (tgt := 22) dX6_then_16 (by decide) (fun c_16 => ?_) (fun c_16 => ?_)
    · skip
      rcases in03 (by assumption) with rfl | rfl | rfl | rfl
      · skip
        refine w_iload_n dX6_then_22 rfl ?_
        refine w_tableIn (tgt := 48) dX6_then_23 (by decide) (by decide) rfl (by decide) ?_
        refine w_aload_n dX6_then_48 rfl ?_
        refine w_get dX6_then_49 f_X6_30 rfl rfl ?_
        refine w_get dX6_then_52 f_X6_107 rfl rfl ?_
        refine w_get dX6_then_55 f_X6_60 rfl rfl ?_
        exact w_iret dX6_then_58 rfl (by rw [cThR, if_pos c_6, if_pos c_16, yq_t c_16]; rfl) (by rw [cThQ, if_pos c_6]; try rfl) rfl (Nat.le_refl 0)
      · skip
        refine w_iload_n dX6_then_22 rfl ?_
        refine w_tableIn (tgt := 59) dX6_then_23 (by decide) (by decide) rfl (by decide) ?_
        refine w_aload_n dX6_then_59 rfl ?_
        refine w_get dX6_then_60 f_X6_30 rfl rfl ?_
        refine w_get dX6_then_63 f_X6_107 rfl rfl ?_
        refine w_get dX6_then_66 f_X6_129 rfl rfl ?_
        exact w_iret dX6_then_69 rfl (by rw [cThR, if_pos c_6, if_pos c_16, yq_t c_16]; rfl) (by rw [cThQ, if_pos c_6]; try rfl) rfl (Nat.le_refl 0)
      · skip
        refine w_iload_n dX6_then_22 rfl ?_
        refine w_tableIn (tgt := 70) dX6_then_23 (by decide) (by decide) rfl (by decide) ?_
        refine w_aload_n dX6_then_70 rfl ?_
        refine w_get dX6_then_71 f_X6_30 rfl rfl ?_
        refine w_get dX6_then_74 f_X6_132 rfl rfl ?_
        exact w_iret dX6_then_77 rfl (by rw [cThR, if_pos c_6, if_pos c_16, yq_t c_16]; rfl) (by rw [cThQ, if_pos c_6]; try rfl) rfl (Nat.le_refl 0)
      · skip
        refine w_iload_n dX6_then_22 rfl ?_
        refine w_tableOut (tgt := 78) dX6_then_23 (by decide) (by decide) ?_
        refine w_aload_n dX6_then_78 rfl ?_
        refine w_get dX6_then_79 f_X6_30 rfl rfl ?_
        refine w_get dX6_then_82 f_X6_135 rfl rfl ?_
        exact w_iret dX6_then_85 rfl (by rw [cThR, if_pos c_6, if_pos c_16, yq_t c_16]; rfl) (by rw [cThQ, if_pos c_6]; try rfl) rfl (Nat.le_refl 0)
    · skip
      refine w_bipush (v := (-5)) dX6_then_19 (by decide) ?_
      exact w_iret dX6_then_21 rfl (by simp only [cThR, if_pos, if_neg, not_false_eq_true, if_true, if_false, Bool.false_eq_true, c_6, c_16]; try rfl) (by simp only [cThQ, if_pos, if_neg, not_false_eq_true, if_true, if_false, Bool.false_eq_true, c_6, c_16]; try rfl) rfl (Nat.le_refl 0)
  · skip
    refine w_bipush (v := (-2)) dX6_then_9 (by decide) ?_
    exact w_iret dX6_then_11 rfl (by simp only [cThR, if_pos, if_neg, not_false_eq_true, if_true, if_false, Bool.false_eq_true, c_6]; try rfl) (by simp only [cThQ, if_pos, if_neg, not_false_eq_true, if_true, if_false, Bool.false_eq_true, c_6]; try rfl) rfl (Nat.le_refl 0)

set_option maxRecDepth 100000 in
set_option maxHeartbeats 4000000 in
theorem pm_X6_opens {l : Launch} {D : va_G} {N T : WS} {im : Nat → Option Nat} {ps mo op : Nat → Int32} {pn ta tb tw tp tn ka kf ks kc tot : Int32} {t : PH} {x : Int32} : PM l D YX6_opens 5 [.ref 0, .int x] (XH N im ps pn T ta tb tw tp tn ka kf ks kc mo op tot t) 0 0 (some (.int (if sBox x then sLetIn N x else -1))) (XH N im ps pn T ta tb tw tp tn ka kf ks kc mo op tot t) := by
  refine pm_of2 (n0 := (t.length + 28)) kb_YX6_opens rfl [some (.ref 0), some (.int x)] (fun _ => rfl) (fun _ => (Nat.le_of_ble_eq_true rfl)) ?_
  refine w_iload_n dX6_opens_0 rfl ?_
  refine w_callSr dX6_opens_1 k_X6_70 (pm_X6_isBox) rfl rfl (Nat.le_of_ble_eq_true rfl) (Nat.le_of_ble_eq_true rfl) (Nat.le_of_ble_eq_true rfl) (rc00 rfl (Nat.le_refl 0)) ?_
  refine w_ztif_eq (a := ?a4_1) (b := ?b4_1) (pJ := 19) (tgt := 18) dX6_opens_4 (by decide) (fun c_4 k => ?hA4_1) (fun c_4 k => ?hB4_1) ?hk4_1
  case hA4_1 =>
    refine w_iconst (v := (-1)) dX6_opens_18 (by decide) ?_
    exact k
  case hB4_1 =>
    refine w_aload_n dX6_opens_7 rfl ?_
    refine w_get dX6_opens_8 f_X6_10 rfl rfl ?_
    refine w_iload_n dX6_opens_11 rfl ?_
    refine w_callVr dX6_opens_12 k_X6_138 (xN_soulsLetIn) rfl rfl rfl rfl (Nat.le_of_ble_eq_true rfl) (Nat.le_of_ble_eq_true rfl) (Nat.le_of_ble_eq_true rfl) (rc00 rfl (Nat.le_refl 0)) ?_
    refine w_goto (tgt := 19) dX6_opens_15 (by decide) ?_
    exact k
  exact w_iret dX6_opens_19 rfl (by rw [cond_eq_ite]) rfl rfl (Nat.le_refl 0)

set_option maxRecDepth 100000 in
set_option maxHeartbeats 4000000 in
theorem pm_X6_two {l : Launch} {D : va_G} {N T : WS} {im : Nat → Option Nat} {ps mo op : Nat → Int32} {pn ta tb tw tp tn ka kf ks kc tot : Int32} {t : PH}  : PM l D YX6_two 5 [.ref 0] (XH N im ps pn T ta tb tw tp tn ka kf ks kc mo op tot t) 0 0 (some (.int (cTwo N))) (XH N im ps pn T ta tb tw tp tn ka kf ks kc mo op tot t) := by
  refine pm_of2 (n0 := (t.length + 28)) kb_YX6_two rfl [some (.ref 0), none, none] (fun _ => rfl) (fun _ => (Nat.le_of_ble_eq_true rfl)) ?_
  have loop : ∀ (k i : Nat), i + k = 6 → Wp l D YX6_two (pRm 5 0 0) (t.length + 28) (fun _ _ _ => True) (mE D (t.length + 28) 0 0 (some (.int (cTwo N))) (XH N im ps pn T ta tb tw tp tn ka kf ks kc mo op tot t)) 4 [some (.ref 0), some (.int (iter (fOr (fun i => decide (2 ≤ bc (sLetIn N (nI i))))) i 0)), some (.int (nI i))] [] (XH N im ps pn T ta tb tw tp tn ka kf ks kc mo op tot t) 0 := by
    intro k
    induction k with
    | zero =>
      intro i hi
      have hi : i = 6 := by omega
      subst hi
      refine w_iload_n dX6_two_4 rfl ?_
      refine w_bipush (v := 6) dX6_two_5 (by decide) ?_
      refine w_icmp_ge_t (tgt := 37) dX6_two_7 (by decide) (Int32.le_refl _) ?_
      refine w_iload_n dX6_two_37 rfl ?_
      exact w_iret dX6_two_38 rfl rfl rfl rfl (Nat.le_refl 0)
    | succ k ih =>
      intro i hi
      refine w_iload_n dX6_two_4 rfl ?_
      refine w_bipush (v := 6) dX6_two_5 (by decide) ?_
      refine w_icmp_ge_f dX6_two_7 ⟨37, by decide⟩ (lp_g hi (by decide) rfl) ?_
      refine w_aload_n dX6_two_10 rfl ?_
      refine w_get dX6_two_11 f_X6_10 rfl rfl ?_
      refine w_iload_n dX6_two_14 rfl ?_
      refine w_callVr dX6_two_15 k_X6_138 (xN_soulsLetIn) rfl rfl rfl rfl (Nat.le_of_ble_eq_true rfl) (Nat.le_of_ble_eq_true rfl) (Nat.le_of_ble_eq_true rfl) (rc00 rfl (Nat.le_refl 0)) ?_
      refine w_callSr dX6_two_18 k_X6_64 (pm_bitCount) rfl rfl (Nat.le_of_ble_eq_true rfl) (Nat.le_of_ble_eq_true rfl) (Nat.le_of_ble_eq_true rfl) (rc00 rfl (Nat.le_refl 0)) ?_
      refine w_iconst (v := 2) dX6_two_21 (by decide) ?_
      refine w_icmp_lt (tgt := 31) dX6_two_22 (by decide) (fun c_22 => ?_) (fun c_22 => ?_)
      · skip
        refine w_iinc_2 (v := 1) dX6_two_31 (by decide) (Nat.le_of_ble_eq_true rfl) rfl ?_
        refine w_goto (tgt := 4) dX6_two_34 (by decide) ?_
        refine w_loc_2 (nI_1 i) (w_loc_1 ?_ (ih (i + 1) (by omega)))
        show _ = fOr _ i _
        simp [fOr, ← Int32.not_lt, c_22]
      · skip
        refine w_iload_n dX6_two_25 rfl ?_
        refine w_iconst (v := 1) dX6_two_26 (by decide) ?_
        refine w_iload_n dX6_two_27 rfl ?_
        refine w_ishl dX6_two_28 ?_
        refine w_ior dX6_two_29 ?_
        refine w_istore_1 dX6_two_30 (Nat.le_of_ble_eq_true rfl) rfl ?_
        refine w_iinc_2 (v := 1) dX6_two_31 (by decide) (Nat.le_of_ble_eq_true rfl) rfl ?_
        refine w_goto (tgt := 4) dX6_two_34 (by decide) ?_
        refine w_loc_2 (nI_1 i) (w_loc_1 ?_ (ih (i + 1) (by omega)))
        show _ = fOr _ i _
        simp [fOr, ← Int32.not_lt, c_22]
  refine w_iconst (v := 0) dX6_two_0 (by decide) ?_
  refine w_istore_1 dX6_two_1 (Nat.le_of_ble_eq_true rfl) rfl ?_
  refine w_iconst (v := 0) dX6_two_2 (by decide) ?_
  refine w_istore_2 dX6_two_3 (Nat.le_of_ble_eq_true rfl) rfl ?_
  exact loop 6 0 rfl

set_option maxRecDepth 100000 in
set_option maxHeartbeats 4000000 in
theorem pm_X6_rings {l : Launch} {D : va_G} {N T : WS} {im : Nat → Option Nat} {ps mo op : Nat → Int32} {pn ta tb tw tp tn ka kf ks kc tot : Int32} {t : PH}  : PM l D YX6_rings 4 [.ref 0] (XH N im ps pn T ta tb tw tp tn ka kf ks kc mo op tot t) 0 0 (some (.int (cRing N))) (XH N im ps pn T ta tb tw tp tn ka kf ks kc mo op tot t) := by
  refine pm_of2 (n0 := (t.length + 28)) kb_YX6_rings rfl [some (.ref 0), none, none] (fun _ => rfl) (fun _ => (Nat.le_of_ble_eq_true rfl)) ?_
  have loop : ∀ (k i : Nat), i + k = 8 → Wp l D YX6_rings (pRm 4 0 0) (t.length + 28) (fun _ _ _ => True) (mE D (t.length + 28) 0 0 (some (.int (cRing N))) (XH N im ps pn T ta tb tw tp tn ka kf ks kc mo op tot t)) 4 [some (.ref 0), some (.int (iter (fOr (fun i => sBit (sBehind N (nI i)) (nI i))) i 0)), some (.int (nI i))] [] (XH N im ps pn T ta tb tw tp tn ka kf ks kc mo op tot t) 0 := by
    intro k
    induction k with
    | zero =>
      intro i hi
      have hi : i = 8 := by omega
      subst hi
      refine w_iload_n dX6_rings_4 rfl ?_
      refine w_bipush (v := 8) dX6_rings_5 (by decide) ?_
      refine w_icmp_ge_t (tgt := 37) dX6_rings_7 (by decide) (Int32.le_refl _) ?_
      refine w_iload_n dX6_rings_37 rfl ?_
      exact w_iret dX6_rings_38 rfl rfl rfl rfl (Nat.le_refl 0)
    | succ k ih =>
      intro i hi
      refine w_iload_n dX6_rings_4 rfl ?_
      refine w_bipush (v := 8) dX6_rings_5 (by decide) ?_
      refine w_icmp_ge_f dX6_rings_7 ⟨37, by decide⟩ (lp_g hi (by decide) rfl) ?_
      refine w_aload_n dX6_rings_10 rfl ?_
      refine w_get dX6_rings_11 f_X6_10 rfl rfl ?_
      refine w_iload_n dX6_rings_14 rfl ?_
      refine w_callVr dX6_rings_15 k_X6_152 (xN_creditorsBehind (vin_8 hi (by decide))) rfl rfl rfl rfl (Nat.le_of_ble_eq_true rfl) (Nat.le_of_ble_eq_true rfl) (Nat.le_of_ble_eq_true rfl) (rc00 rfl (Nat.le_refl 0)) ?_
      refine w_iload_n dX6_rings_18 rfl ?_
      refine w_callSr dX6_rings_19 k_X6_141 (pm_X6_hasBit) rfl rfl (Nat.le_of_ble_eq_true rfl) (Nat.le_of_ble_eq_true rfl) (Nat.le_of_ble_eq_true rfl) (rc00 rfl (Nat.le_refl 0)) ?_
      refine w_zif_eq (tgt := 31) dX6_rings_22 (by decide) (fun c_22 => ?_) (fun c_22 => ?_)
      · skip
        refine w_iinc_2 (v := 1) dX6_rings_31 (by decide) (Nat.le_of_ble_eq_true rfl) rfl ?_
        refine w_goto (tgt := 4) dX6_rings_34 (by decide) ?_
        refine w_loc_2 (nI_1 i) (w_loc_1 ?_ (ih (i + 1) (by omega)))
        show _ = fOr _ i _
        simp [fOr, ← Int32.not_lt, c_22]
      · skip
        refine w_iload_n dX6_rings_25 rfl ?_
        refine w_iconst (v := 1) dX6_rings_26 (by decide) ?_
        refine w_iload_n dX6_rings_27 rfl ?_
        refine w_ishl dX6_rings_28 ?_
        refine w_ior dX6_rings_29 ?_
        refine w_istore_1 dX6_rings_30 (Nat.le_of_ble_eq_true rfl) rfl ?_
        refine w_iinc_2 (v := 1) dX6_rings_31 (by decide) (Nat.le_of_ble_eq_true rfl) rfl ?_
        refine w_goto (tgt := 4) dX6_rings_34 (by decide) ?_
        refine w_loc_2 (nI_1 i) (w_loc_1 ?_ (ih (i + 1) (by omega)))
        show _ = fOr _ i _
        simp [fOr, ← Int32.not_lt, c_22]
  refine w_iconst (v := 0) dX6_rings_0 (by decide) ?_
  refine w_istore_1 dX6_rings_1 (Nat.le_of_ble_eq_true rfl) rfl ?_
  refine w_iconst (v := 0) dX6_rings_2 (by decide) ?_
  refine w_istore_2 dX6_rings_3 (Nat.le_of_ble_eq_true rfl) rfl ?_
  exact loop 8 0 rfl

set_option maxRecDepth 100000 in
set_option maxHeartbeats 4000000 in
theorem pm_X6_chain {l : Launch} {D : va_G} {N T : WS} {im : Nat → Option Nat} {ps mo op : Nat → Int32} {pn ta tb tw tp tn ka kf ks kc tot : Int32} {t : PH} {s w : Int32} : PM l D YX6_chain 2 [.ref 0, .int s, .int w] (XH N im ps pn T ta tb tw tp tn ka kf ks kc mo op tot t) 0 0 (some (.int (cChR N s w))) (XH N im ps pn T ta tb tw tp tn ka kf ks kc mo op tot t) := by
  refine pm_of2 (n0 := (t.length + 28)) kb_YX6_chain rfl [some (.ref 0), some (.int s), some (.int w), none, none, none, none] (fun _ => rfl) (fun _ => (Nat.le_of_ble_eq_true rfl)) ?_
  have loop : sSoul s = true → sIn w 0 1 = true → ∀ (k i : Nat), i + k = 8 → ∀ (me la at_ : Int32), chGo N k me la at_ = cCh N s → Wp l D YX6_chain (pRm 2 0 0) (t.length + 28) (fun _ _ _ => True) (mE D (t.length + 28) 0 0 (some (.int (cChR N s w))) (XH N im ps pn T ta tb tw tp tn ka kf ks kc mo op tot t)) 43 [some (.ref 0), some (.int s), some (.int w), some (.int me), some (.int la), some (.int at_), some (.int (nI i))] [] (XH N im ps pn T ta tb tw tp tn ka kf ks kc mo op tot t) 0 := by
    intro q1 q2 k
    induction k with
    | zero =>
      intro i hi me la at_ hr
      have hi : i = 8 := by omega
      subst hi
      refine w_iload dX6_chain_43 rfl ?_
      refine w_bipush (v := 8) dX6_chain_45 (by decide) ?_
      refine w_icmp_ge_t (tgt := 96) dX6_chain_47 (by decide) (Int32.le_refl _) ?_
      refine w_iload_n dX6_chain_96 rfl ?_
      refine w_tif_ne (a := ?a97_1) (b := ?b97_1) (pJ := 111) (tgt := 109) dX6_chain_97 (by decide) (fun c_97 k => ?hA97_1) (fun c_97 k => ?hB97_1) ?hk97_1
      case hA97_1 =>
        refine w_iload dX6_chain_109 rfl ?_
        exact k
      case hB97_1 =>
        refine w_iload_n dX6_chain_100 rfl ?_
        refine w_callSr dX6_chain_101 k_X6_64 (pm_bitCount) rfl rfl (Nat.le_of_ble_eq_true rfl) (Nat.le_of_ble_eq_true rfl) (Nat.le_of_ble_eq_true rfl) (rc00 rfl (Nat.le_refl 0)) ?_
        refine w_iconst (v := 1) dX6_chain_104 (by decide) ?_
        refine w_isub dX6_chain_105 ?_
        refine w_goto (tgt := 111) dX6_chain_106 (by decide) ?_
        exact k
      exact w_iret dX6_chain_111 rfl (by rw [cChR, if_pos q1, if_pos q2, ← hr]; rfl) rfl rfl (Nat.le_refl 0)
    | succ k ih =>
      intro i hi me la at_ hr
      rw [chGo] at hr
      refine w_iload dX6_chain_43 rfl ?_
      refine w_bipush (v := 8) dX6_chain_45 (by decide) ?_
      refine w_icmp_ge_f dX6_chain_47 ⟨96, by decide⟩ (lp_g hi (by decide) rfl) ?_
      refine w_iload dX6_chain_50 rfl ?_
      refine w_callSr dX6_chain_52 k_X6_48 (pm_X6_isSoul) rfl rfl (Nat.le_of_ble_eq_true rfl) (Nat.le_of_ble_eq_true rfl) (Nat.le_of_ble_eq_true rfl) (rc00 rfl (Nat.le_refl 0)) ?_
      refine w_zif_eq (tgt := 96) dX6_chain_55 (by decide) (fun c_55 => ?_) (fun c_55 => ?_)
      · skip
        refine w_iload_n dX6_chain_96 rfl ?_
        refine w_tif_ne (a := ?a97_2) (b := ?b97_2) (pJ := 111) (tgt := 109) dX6_chain_97 (by decide) (fun c_97 k => ?hA97_2) (fun c_97 k => ?hB97_2) ?hk97_2
        case hA97_2 =>
          refine w_iload dX6_chain_109 rfl ?_
          exact k
        case hB97_2 =>
          refine w_iload_n dX6_chain_100 rfl ?_
          refine w_callSr dX6_chain_101 k_X6_64 (pm_bitCount) rfl rfl (Nat.le_of_ble_eq_true rfl) (Nat.le_of_ble_eq_true rfl) (Nat.le_of_ble_eq_true rfl) (rc00 rfl (Nat.le_refl 0)) ?_
          refine w_iconst (v := 1) dX6_chain_104 (by decide) ?_
          refine w_isub dX6_chain_105 ?_
          refine w_goto (tgt := 111) dX6_chain_106 (by decide) ?_
          exact k
        exact w_iret dX6_chain_111 rfl (by simp only [if_pos, if_neg, not_false_eq_true, if_true, if_false, Bool.false_eq_true, c_55] at hr; rw [cChR, if_pos q1, if_pos q2, ← hr]) rfl rfl (Nat.le_refl 0)
      · skip
        refine w_iload_n dX6_chain_58 rfl ?_
        refine w_iload dX6_chain_59 rfl ?_
        refine w_callSr dX6_chain_61 k_X6_141 (pm_X6_hasBit) rfl rfl (Nat.le_of_ble_eq_true rfl) (Nat.le_of_ble_eq_true rfl) (Nat.le_of_ble_eq_true rfl) (rc00 rfl (Nat.le_refl 0)) ?_
        refine w_zif_ne (tgt := 96) dX6_chain_64 (by decide) (fun c_64 => ?_) (fun c_64 => ?_)
        · skip
          refine w_iload_n dX6_chain_96 rfl ?_
          refine w_tif_ne (a := ?a97_3) (b := ?b97_3) (pJ := 111) (tgt := 109) dX6_chain_97 (by decide) (fun c_97 k => ?hA97_3) (fun c_97 k => ?hB97_3) ?hk97_3
          case hA97_3 =>
            refine w_iload dX6_chain_109 rfl ?_
            exact k
          case hB97_3 =>
            refine w_iload_n dX6_chain_100 rfl ?_
            refine w_callSr dX6_chain_101 k_X6_64 (pm_bitCount) rfl rfl (Nat.le_of_ble_eq_true rfl) (Nat.le_of_ble_eq_true rfl) (Nat.le_of_ble_eq_true rfl) (rc00 rfl (Nat.le_refl 0)) ?_
            refine w_iconst (v := 1) dX6_chain_104 (by decide) ?_
            refine w_isub dX6_chain_105 ?_
            refine w_goto (tgt := 111) dX6_chain_106 (by decide) ?_
            exact k
          exact w_iret dX6_chain_111 rfl (by simp only [if_pos, if_neg, not_false_eq_true, if_true, if_false, Bool.false_eq_true, c_55, c_64] at hr; rw [cChR, if_pos q1, if_pos q2, ← hr]) rfl rfl (Nat.le_refl 0)
        · skip
          refine w_iload_n dX6_chain_67 rfl ?_
          refine w_iconst (v := 1) dX6_chain_68 (by decide) ?_
          refine w_iload dX6_chain_69 rfl ?_
          refine w_ishl dX6_chain_71 ?_
          refine w_ior dX6_chain_72 ?_
          refine w_istore_3 dX6_chain_73 (Nat.le_of_ble_eq_true rfl) rfl ?_
          refine w_iload dX6_chain_74 rfl ?_
          refine w_istore_4 dX6_chain_76 (Nat.le_of_ble_eq_true rfl) rfl ?_
          refine w_aload_n dX6_chain_78 rfl ?_
          refine w_get dX6_chain_79 f_X6_10 rfl rfl ?_
          refine w_get dX6_chain_82 f_X6_126 rfl rfl ?_
          refine w_iload dX6_chain_85 rfl ?_
          refine w_iald dX6_chain_87 rfl (vin_soul (by assumption)) ?_
          refine w_istore_5 dX6_chain_88 (Nat.le_of_ble_eq_true rfl) rfl ?_
          refine w_iinc_6 (v := 1) dX6_chain_90 (by decide) (Nat.le_of_ble_eq_true rfl) rfl ?_
          refine w_goto (tgt := 43) dX6_chain_93 (by decide) ?_
          rw [if_pos c_55, if_neg (by rw [c_64]; decide)] at hr
          exact w_loc_6 (nI_1 i) (ih (i + 1) (by omega) _ _ _ hr)
  refine w_iload_n dX6_chain_0 rfl ?_
  refine w_callSr dX6_chain_1 k_X6_48 (pm_X6_isSoul) rfl rfl (Nat.le_of_ble_eq_true rfl) (Nat.le_of_ble_eq_true rfl) (Nat.le_of_ble_eq_true rfl) (rc00 rfl (Nat.le_refl 0)) ?_
  refine w_zif_ne (tgt := 9) dX6_chain_4 (by decide) (fun c_4 => ?_) (fun c_4 => ?_)
  · skip
    refine w_iload_n dX6_chain_9 rfl ?_
    refine w_iconst (v := 0) dX6_chain_10 (by decide) ?_
    refine w_iconst (v := 1) dX6_chain_11 (by decide) ?_
    refine w_callSr dX6_chain_12 k_X6_52 (pm_X6_isWithin) rfl rfl (Nat.le_of_ble_eq_true rfl) (Nat.le_of_ble_eq_true rfl) (Nat.le_of_ble_eq_true rfl) (rc00 rfl (Nat.le_refl 0)) ?_
    refine w_zif_ne (tgt := 21) dX6_chain_15 (by decide) (fun c_15 => ?_) (fun c_15 => ?_)
    · skip
      refine w_iconst (v := 1) dX6_chain_21 (by decide) ?_
      refine w_iload_n dX6_chain_22 rfl ?_
      refine w_ishl dX6_chain_23 ?_
      refine w_istore_3 dX6_chain_24 (Nat.le_of_ble_eq_true rfl) rfl ?_
      refine w_bipush (v := (-6)) dX6_chain_25 (by decide) ?_
      refine w_istore_4 dX6_chain_27 (Nat.le_of_ble_eq_true rfl) rfl ?_
      refine w_aload_n dX6_chain_29 rfl ?_
      refine w_get dX6_chain_30 f_X6_10 rfl rfl ?_
      refine w_get dX6_chain_33 f_X6_126 rfl rfl ?_
      refine w_iload_n dX6_chain_36 rfl ?_
      refine w_iald dX6_chain_37 rfl (vin_soul (by assumption)) ?_
      refine w_istore_5 dX6_chain_38 (Nat.le_of_ble_eq_true rfl) rfl ?_
      refine w_iconst (v := 0) dX6_chain_40 (by decide) ?_
      refine w_istore_6 dX6_chain_41 (Nat.le_of_ble_eq_true rfl) rfl ?_
      exact loop c_4 c_15 8 0 rfl _ _ _ rfl
    · skip
      refine w_bipush (v := (-2)) dX6_chain_18 (by decide) ?_
      exact w_iret dX6_chain_20 rfl (by simp only [cChR, if_pos, if_neg, not_false_eq_true, if_true, if_false, Bool.false_eq_true, c_4, c_15]; try rfl) rfl rfl (Nat.le_refl 0)
  · skip
    refine w_iconst (v := (-1)) dX6_chain_7 (by decide) ?_
    exact w_iret dX6_chain_8 rfl (by simp only [cChR, if_pos, if_neg, not_false_eq_true, if_true, if_false, Bool.false_eq_true, c_4]; try rfl) rfl rfl (Nat.le_refl 0)

set_option maxRecDepth 100000 in
set_option maxHeartbeats 4000000 in
theorem pm_X6_owes {l : Launch} {D : va_G} {N T : WS} {im : Nat → Option Nat} {ps mo op : Nat → Int32} {pn ta tb tw tp tn ka kf ks kc tot : Int32} {t : PH} {s o : Int32} : PM l D YX6_owes 2 [.ref 0, .int s, .int o] (XH N im ps pn T ta tb tw tp tn ka kf ks kc mo op tot t) 0 0 (some (.int (cOwe N s o))) (XH N im ps pn T ta tb tw tp tn ka kf ks kc mo op tot t) := by
  refine pm_of2 (n0 := (t.length + 28)) kb_YX6_owes rfl [some (.ref 0), some (.int s), some (.int o)] (fun _ => rfl) (fun _ => (Nat.le_of_ble_eq_true rfl)) ?_
  refine w_iload_n dX6_owes_0 rfl ?_
  refine w_callSr dX6_owes_1 k_X6_48 (pm_X6_isSoul) rfl rfl (Nat.le_of_ble_eq_true rfl) (Nat.le_of_ble_eq_true rfl) (Nat.le_of_ble_eq_true rfl) (rc00 rfl (Nat.le_refl 0)) ?_
  refine w_zif_eq (tgt := 19) dX6_owes_4 (by decide) (fun c_4 => ?_) (fun c_4 => ?_)
  · skip
    refine w_iconst (v := (-1)) dX6_owes_19 (by decide) ?_
    exact w_iret dX6_owes_20 rfl (by simp only [cOwe, if_pos, if_neg, not_false_eq_true, if_true, if_false, Bool.false_eq_true, c_4]; try rfl) rfl rfl (Nat.le_refl 0)
  · skip
    refine w_iload_n dX6_owes_7 rfl ?_
    refine w_callSr dX6_owes_8 k_X6_48 (pm_X6_isSoul) rfl rfl (Nat.le_of_ble_eq_true rfl) (Nat.le_of_ble_eq_true rfl) (Nat.le_of_ble_eq_true rfl) (rc00 rfl (Nat.le_refl 0)) ?_
    refine w_zif_eq (tgt := 19) dX6_owes_11 (by decide) (fun c_11 => ?_) (fun c_11 => ?_)
    · skip
      refine w_iconst (v := (-1)) dX6_owes_19 (by decide) ?_
      exact w_iret dX6_owes_20 rfl (by simp only [cOwe, if_pos, if_neg, not_false_eq_true, if_true, if_false, Bool.false_eq_true, c_4, c_11]; try rfl) rfl rfl (Nat.le_refl 0)
    · skip
      refine w_iload_n dX6_owes_14 rfl ?_
      refine w_iload_n dX6_owes_15 rfl ?_
      refine w_icmp_ne (tgt := 21) dX6_owes_16 (by decide) (fun c_16 => ?_) (fun c_16 => ?_)
      · skip
        refine w_aload_n dX6_owes_21 rfl ?_
        refine w_get dX6_owes_22 f_X6_10 rfl rfl ?_
        refine w_get dX6_owes_25 f_X6_145 rfl rfl ?_
        refine w_iload_n dX6_owes_28 rfl ?_
        refine w_iload_n dX6_owes_29 rfl ?_
        refine w_callSr dX6_owes_30 k_X6_148 (pm_X5_debtPlace) rfl rfl (Nat.le_of_ble_eq_true rfl) (Nat.le_of_ble_eq_true rfl) (Nat.le_of_ble_eq_true rfl) (rc00 rfl (Nat.le_refl 0)) ?_
        refine w_iald dX6_owes_33 rfl (vin_deb (vin_soul (by assumption)) (vin_soul (by assumption))) ?_
        exact w_iret dX6_owes_34 rfl (by simp only [cOwe, if_pos, if_neg, not_false_eq_true, if_true, if_false, Bool.false_eq_true, c_4, c_11, c_16]; try rfl) rfl rfl (Nat.le_refl 0)
      · skip
        refine w_iconst (v := (-1)) dX6_owes_19 (by decide) ?_
        exact w_iret dX6_owes_20 rfl (by simp only [cOwe, if_pos, if_neg, not_false_eq_true, if_true, if_false, Bool.false_eq_true, c_4, c_11, c_16]; try rfl) rfl rfl (Nat.le_refl 0)

set_option maxRecDepth 100000 in
set_option maxHeartbeats 4000000 in
theorem pm_X6_netted {l : Launch} {D : va_G} {N T : WS} {im : Nat → Option Nat} {ps mo op : Nat → Int32} {pn ta tb tw tp tn ka kf ks kc tot : Int32} {t : PH} {s : Int32} : PM l D YX6_netted 2 [.ref 0, .int s] (XH N im ps pn T ta tb tw tp tn ka kf ks kc mo op tot t) 0 0 (some (.int (if sSoul s then cNet N s else -1))) (XH N im ps pn T ta tb tw tp tn ka kf ks kc mo op tot t) := by
  refine pm_of2 (n0 := (t.length + 28)) kb_YX6_netted rfl [some (.ref 0), some (.int s), none, none] (fun _ => rfl) (fun _ => (Nat.le_of_ble_eq_true rfl)) ?_
  have loop : sSoul s = true → ∀ (k i : Nat), i + k = 8 → Wp l D YX6_netted (pRm 2 0 0) (t.length + 28) (fun _ _ _ => True) (mE D (t.length + 28) 0 0 (some (.int (if sSoul s then cNet N s else -1))) (XH N im ps pn T ta tb tw tp tn ka kf ks kc mo op tot t)) 15 [some (.ref 0), some (.int s), some (.int (iter (fun i a => a + (wde N (sDeb (nI i) s).toNatClampNeg - wde N (sDeb s (nI i)).toNatClampNeg)) i 10000)), some (.int (nI i))] [] (XH N im ps pn T ta tb tw tp tn ka kf ks kc mo op tot t) 0 := by
    intro q1 k
    induction k with
    | zero =>
      intro i hi
      have hi : i = 8 := by omega
      subst hi
      refine w_iload_n dX6_netted_15 rfl ?_
      refine w_bipush (v := 8) dX6_netted_16 (by decide) ?_
      refine w_icmp_ge_t (tgt := 57) dX6_netted_18 (by decide) (Int32.le_refl _) ?_
      refine w_iload_n dX6_netted_57 rfl ?_
      exact w_iret dX6_netted_58 rfl (by rw [if_pos q1]; rfl) rfl rfl (Nat.le_refl 0)
    | succ k ih =>
      intro i hi
      refine w_iload_n dX6_netted_15 rfl ?_
      refine w_bipush (v := 8) dX6_netted_16 (by decide) ?_
      refine w_icmp_ge_f dX6_netted_18 ⟨57, by decide⟩ (lp_g hi (by decide) rfl) ?_
      refine w_iload_n dX6_netted_21 rfl ?_
      refine w_aload_n dX6_netted_22 rfl ?_
      refine w_get dX6_netted_23 f_X6_10 rfl rfl ?_
      refine w_get dX6_netted_26 f_X6_145 rfl rfl ?_
      refine w_iload_n dX6_netted_29 rfl ?_
      refine w_iload_n dX6_netted_30 rfl ?_
      refine w_callSr dX6_netted_31 k_X6_148 (pm_X5_debtPlace) rfl rfl (Nat.le_of_ble_eq_true rfl) (Nat.le_of_ble_eq_true rfl) (Nat.le_of_ble_eq_true rfl) (rc00 rfl (Nat.le_refl 0)) ?_
      refine w_iald dX6_netted_34 rfl (vin_deb (vin_8 hi (by decide)) (vin_soul q1)) ?_
      refine w_aload_n dX6_netted_35 rfl ?_
      refine w_get dX6_netted_36 f_X6_10 rfl rfl ?_
      refine w_get dX6_netted_39 f_X6_145 rfl rfl ?_
      refine w_iload_n dX6_netted_42 rfl ?_
      refine w_iload_n dX6_netted_43 rfl ?_
      refine w_callSr dX6_netted_44 k_X6_148 (pm_X5_debtPlace) rfl rfl (Nat.le_of_ble_eq_true rfl) (Nat.le_of_ble_eq_true rfl) (Nat.le_of_ble_eq_true rfl) (rc00 rfl (Nat.le_refl 0)) ?_
      refine w_iald dX6_netted_47 rfl (vin_deb (vin_soul q1) (vin_8 hi (by decide))) ?_
      refine w_isub dX6_netted_48 ?_
      refine w_iadd dX6_netted_49 ?_
      refine w_istore_2 dX6_netted_50 (Nat.le_of_ble_eq_true rfl) rfl ?_
      refine w_iinc_3 (v := 1) dX6_netted_51 (by decide) (Nat.le_of_ble_eq_true rfl) rfl ?_
      refine w_goto (tgt := 15) dX6_netted_54 (by decide) ?_
      exact w_loc_3 (nI_1 i) (ih (i + 1) (by omega))
  refine w_iload_n dX6_netted_0 rfl ?_
  refine w_callSr dX6_netted_1 k_X6_48 (pm_X6_isSoul) rfl rfl (Nat.le_of_ble_eq_true rfl) (Nat.le_of_ble_eq_true rfl) (Nat.le_of_ble_eq_true rfl) (rc00 rfl (Nat.le_refl 0)) ?_
  refine w_zif_ne (tgt := 9) dX6_netted_4 (by decide) (fun c_4 => ?_) (fun c_4 => ?_)
  · skip
    refine w_sipush (v := 10000) dX6_netted_9 (by decide) ?_
    refine w_istore_2 dX6_netted_12 (Nat.le_of_ble_eq_true rfl) rfl ?_
    refine w_iconst (v := 0) dX6_netted_13 (by decide) ?_
    refine w_istore_3 dX6_netted_14 (Nat.le_of_ble_eq_true rfl) rfl ?_
    exact loop c_4 8 0 rfl
  · skip
    refine w_iconst (v := (-1)) dX6_netted_7 (by decide) ?_
    exact w_iret dX6_netted_8 rfl (by rw [if_neg (by rw [c_4]; decide)]) rfl rfl (Nat.le_refl 0)

set_option maxRecDepth 100000 in
set_option maxHeartbeats 4000000 in
theorem pm_X6_note {l : Launch} {D : va_G} {N T : WS} {im : Nat → Option Nat} {ps mo op : Nat → Int32} {pn ta tb tw tp tn ka kf ks kc tot : Int32} {t : PH} {s w : Int32} : PM l D YX6_note 5 [.ref 0, .int s, .int w] (XH N im ps pn T ta tb tw tp tn ka kf ks kc mo op tot t) 0 0 (some (.int (cNote N s w))) (XH N im ps pn T ta tb tw tp tn ka kf ks kc mo op tot t) := by
  refine pm_of2 (n0 := (t.length + 28)) kb_YX6_note rfl [some (.ref 0), some (.int s), some (.int w), none] (fun _ => rfl) (fun _ => (Nat.le_of_ble_eq_true rfl)) ?_
  refine w_aload_n dX6_note_0 rfl ?_
  refine w_get dX6_note_1 f_X6_10 rfl rfl ?_
  refine w_iload_n dX6_note_4 rfl ?_
  refine w_callVr dX6_note_5 k_X6_117 (xN_isLiving) rfl rfl rfl rfl (Nat.le_of_ble_eq_true rfl) (Nat.le_of_ble_eq_true rfl) (Nat.le_of_ble_eq_true rfl) (rc00 rfl (Nat.le_refl 0)) ?_
  refine w_zif_ne (tgt := 13) dX6_note_8 (by decide) (fun c_8 => ?_) (fun c_8 => ?_)
  · skip
    refine w_iload_n dX6_note_13 rfl ?_
    refine w_iconst (v := 0) dX6_note_14 (by decide) ?_
    refine w_iconst (v := 1) dX6_note_15 (by decide) ?_
    refine w_callSr dX6_note_16 k_X6_52 (pm_X6_isWithin) rfl rfl (Nat.le_of_ble_eq_true rfl) (Nat.le_of_ble_eq_true rfl) (Nat.le_of_ble_eq_true rfl) (rc00 rfl (Nat.le_refl 0)) ?_
    refine w_zif_ne (tgt := 25) dX6_note_19 (by decide) (fun c_19 => ?_) (fun c_19 => ?_)
    · skip
      refine w_aload_n dX6_note_25 rfl ?_
      refine w_get dX6_note_26 f_X6_10 rfl rfl ?_
      refine w_iload_n dX6_note_29 rfl ?_
      refine w_callVr dX6_note_30 k_X6_155 (xN_shortestNote (vin_liv (by assumption))) rfl rfl rfl rfl (Nat.le_of_ble_eq_true rfl) (Nat.le_of_ble_eq_true rfl) (Nat.le_of_ble_eq_true rfl) (rc00 rfl (Nat.le_refl 0)) ?_
      refine w_istore_3 dX6_note_33 (Nat.le_of_ble_eq_true rfl) rfl ?_
      refine w_iload_n dX6_note_34 rfl ?_
      refine w_bipush (v := (-6)) dX6_note_35 (by decide) ?_
      refine w_icmp_ne (tgt := 43) dX6_note_37 (by decide) (fun c_37 => ?_) (fun c_37 => ?_)
      · skip
        refine w_iload_n dX6_note_43 rfl ?_
        refine w_tif_ne (a := ?a44_1) (b := ?b44_1) (pJ := 55) (tgt := 54) dX6_note_44 (by decide) (fun c_44 k => ?hA44_1) (fun c_44 k => ?hB44_1) ?hk44_1
        case hA44_1 =>
          refine w_iload_n dX6_note_54 rfl ?_
          exact k
        case hB44_1 =>
          refine w_iload_n dX6_note_47 rfl ?_
          refine w_callSr dX6_note_48 k_X6_64 (pm_bitCount) rfl rfl (Nat.le_of_ble_eq_true rfl) (Nat.le_of_ble_eq_true rfl) (Nat.le_of_ble_eq_true rfl) (rc00 rfl (Nat.le_refl 0)) ?_
          refine w_goto (tgt := 55) dX6_note_51 (by decide) ?_
          exact k
        exact w_iret dX6_note_55 rfl (by simp only [cNote, if_pos, if_neg, not_false_eq_true, if_true, if_false, Bool.false_eq_true, c_8, c_19, c_37]; try rfl) rfl rfl (Nat.le_refl 0)
      · skip
        refine w_bipush (v := (-6)) dX6_note_40 (by decide) ?_
        exact w_iret dX6_note_42 rfl (by simp only [cNote, if_pos, if_neg, not_false_eq_true, if_true, if_false, Bool.false_eq_true, c_8, c_19, c_37]; try rfl) rfl rfl (Nat.le_refl 0)
    · skip
      refine w_bipush (v := (-2)) dX6_note_22 (by decide) ?_
      exact w_iret dX6_note_24 rfl (by simp only [cNote, if_pos, if_neg, not_false_eq_true, if_true, if_false, Bool.false_eq_true, c_8, c_19]; try rfl) rfl rfl (Nat.le_refl 0)
  · skip
    refine w_iconst (v := (-1)) dX6_note_11 (by decide) ?_
    exact w_iret dX6_note_12 rfl (by simp only [cNote, if_pos, if_neg, not_false_eq_true, if_true, if_false, Bool.false_eq_true, c_8]; try rfl) rfl rfl (Nat.le_refl 0)

set_option maxRecDepth 100000 in
set_option maxHeartbeats 4000000 in
theorem pm_X6_only {l : Launch} {D : va_G} {N T : WS} {im : Nat → Option Nat} {ps mo op : Nat → Int32} {pn ta tb tw tp tn ka kf ks kc tot : Int32} {t : PH} {x s : Int32} : PM l D YX6_only 3 [.ref 0, .int x, .int s] (XH N im ps pn T ta tb tw tp tn ka kf ks kc mo op tot t) 0 0 (some (.int (cOnly N x s))) (XH N im ps pn T ta tb tw tp tn ka kf ks kc mo op tot t) := by
  refine pm_of2 (n0 := (t.length + 28)) kb_YX6_only rfl [some (.ref 0), some (.int x), some (.int s), none, none] (fun _ => rfl) (fun _ => (Nat.le_of_ble_eq_true rfl)) ?_
  have loop : sBox x = true → sLiv N s = true → ∀ (k i : Nat), i + k = 8 → Wp l D YX6_only (pRm 3 0 0) (t.length + 28) (fun _ _ _ => True) (mE D (t.length + 28) 0 0 (some (.int (cOnly N x s))) (XH N im ps pn T ta tb tw tp tn ka kf ks kc mo op tot t)) 25 [some (.ref 0), some (.int x), some (.int s), some (.int (iter (fOnl N x s) i 0)), some (.int (nI i))] [] (XH N im ps pn T ta tb tw tp tn ka kf ks kc mo op tot t) 0 := by
    intro q1 q2 k
    induction k with
    | zero =>
      intro i hi
      have hi : i = 8 := by omega
      subst hi
      refine w_iload dX6_only_25 rfl ?_
      refine w_bipush (v := 8) dX6_only_27 (by decide) ?_
      refine w_icmp_ge_t (tgt := 73) dX6_only_29 (by decide) (Int32.le_refl _) ?_
      refine w_iload_n dX6_only_73 rfl ?_
      refine w_aload_n dX6_only_74 rfl ?_
      refine w_get dX6_only_75 f_X6_10 rfl rfl ?_
      refine w_iload_n dX6_only_78 rfl ?_
      refine w_iload_n dX6_only_79 rfl ?_
      refine w_callVr dX6_only_80 k_X6_158 (xN_felt (vin_box (by assumption)) (vin_liv (by assumption))) rfl rfl rfl rfl (Nat.le_of_ble_eq_true rfl) (Nat.le_of_ble_eq_true rfl) (Nat.le_of_ble_eq_true rfl) (rc00 rfl (Nat.le_refl 0)) ?_
      refine w_ticmp_gt (a := ?a83_1) (b := ?b83_1) (pJ := 92) (tgt := 90) dX6_only_83 (by decide) (fun c_83 k => ?hA83_1) (fun c_83 k => ?hB83_1) ?hk83_1
      case hA83_1 =>
        refine w_bipush (v := (-6)) dX6_only_90 (by decide) ?_
        exact k
      case hB83_1 =>
        refine w_iload_n dX6_only_86 rfl ?_
        refine w_goto (tgt := 92) dX6_only_87 (by decide) ?_
        exact k
      exact w_iret dX6_only_92 rfl (by rw [cOnly, if_pos q1, if_pos q2]; rfl) rfl rfl (Nat.le_refl 0)
    | succ k ih =>
      intro i hi
      refine w_iload dX6_only_25 rfl ?_
      refine w_bipush (v := 8) dX6_only_27 (by decide) ?_
      refine w_icmp_ge_f dX6_only_29 ⟨73, by decide⟩ (lp_g hi (by decide) rfl) ?_
      refine w_iload dX6_only_32 rfl ?_
      refine w_iload_n dX6_only_34 rfl ?_
      refine w_icmp_eq (tgt := 67) dX6_only_35 (by decide) (fun c_35 => ?_) (fun c_35 => ?_)
      · skip
        refine w_iinc_4 (v := 1) dX6_only_67 (by decide) (Nat.le_of_ble_eq_true rfl) rfl ?_
        refine w_goto (tgt := 25) dX6_only_70 (by decide) ?_
        refine w_loc_4 (nI_1 i) (w_loc_3 ?_ (ih (i + 1) (by omega)))
        show _ = fOnl N x s i _
        first | (rw [fOnl, if_pos c_35]; done) | (rw [fOnl, if_neg c_35]; simp only [c_47, if_true, if_false, Bool.false_eq_true]; try rfl)
      · skip
        refine w_aload_n dX6_only_38 rfl ?_
        refine w_get dX6_only_39 f_X6_10 rfl rfl ?_
        refine w_iload dX6_only_42 rfl ?_
        refine w_callVr dX6_only_44 k_X6_117 (xN_isLiving) rfl rfl rfl rfl (Nat.le_of_ble_eq_true rfl) (Nat.le_of_ble_eq_true rfl) (Nat.le_of_ble_eq_true rfl) (rc00 rfl (Nat.le_refl 0)) ?_
        refine w_zif_eq (tgt := 67) dX6_only_47 (by decide) (fun c_47 => ?_) (fun c_47 => ?_)
        · skip
          refine w_iinc_4 (v := 1) dX6_only_67 (by decide) (Nat.le_of_ble_eq_true rfl) rfl ?_
          refine w_goto (tgt := 25) dX6_only_70 (by decide) ?_
          refine w_loc_4 (nI_1 i) (w_loc_3 ?_ (ih (i + 1) (by omega)))
          show _ = fOnl N x s i _
          first | (rw [fOnl, if_pos c_35]; done) | (rw [fOnl, if_neg c_35]; simp only [c_47, if_true, if_false, Bool.false_eq_true]; try rfl)
        · skip
          refine w_iload_n dX6_only_50 rfl ?_
          refine w_aload_n dX6_only_51 rfl ?_
          refine w_get dX6_only_52 f_X6_10 rfl rfl ?_
          refine w_iload_n dX6_only_55 rfl ?_
          refine w_iload dX6_only_56 rfl ?_
          refine w_callVr dX6_only_58 k_X6_158 (xN_felt (vin_box (by assumption)) (vin_liv (by assumption))) rfl rfl rfl rfl (Nat.le_of_ble_eq_true rfl) (Nat.le_of_ble_eq_true rfl) (Nat.le_of_ble_eq_true rfl) (rc00 rfl (Nat.le_refl 0)) ?_
          refine w_iconst (v := 1) dX6_only_61 (by decide) ?_
          refine w_iadd dX6_only_62 ?_
          refine w_mmax dX6_only_63 m_X6_161 (Nat.le_of_ble_eq_true rfl) (Nat.le_of_ble_eq_true rfl) (Nat.le_of_ble_eq_true rfl) (rc01 rfl (Nat.le_refl 0)) ?_
          refine w_istore_3 dX6_only_66 (Nat.le_of_ble_eq_true rfl) rfl ?_
          refine w_iinc_4 (v := 1) dX6_only_67 (by decide) (Nat.le_of_ble_eq_true rfl) rfl ?_
          refine w_goto (tgt := 25) dX6_only_70 (by decide) ?_
          refine w_loc_4 (nI_1 i) (w_loc_3 ?_ (ih (i + 1) (by omega)))
          show _ = fOnl N x s i _
          first | (rw [fOnl, if_pos c_35]; done) | (rw [fOnl, if_neg c_35]; simp only [c_47, if_true, if_false, Bool.false_eq_true]; try rfl)
  refine w_iload_n dX6_only_0 rfl ?_
  refine w_callSr dX6_only_1 k_X6_70 (pm_X6_isBox) rfl rfl (Nat.le_of_ble_eq_true rfl) (Nat.le_of_ble_eq_true rfl) (Nat.le_of_ble_eq_true rfl) (rc00 rfl (Nat.le_refl 0)) ?_
  refine w_zif_eq (tgt := 18) dX6_only_4 (by decide) (fun c_4 => ?_) (fun c_4 => ?_)
  · skip
    refine w_iconst (v := (-1)) dX6_only_18 (by decide) ?_
    exact w_iret dX6_only_19 rfl (by simp only [cOnly, if_pos, if_neg, not_false_eq_true, if_true, if_false, Bool.false_eq_true, c_4]; try rfl) rfl rfl (Nat.le_refl 0)
  · skip
    refine w_aload_n dX6_only_7 rfl ?_
    refine w_get dX6_only_8 f_X6_10 rfl rfl ?_
    refine w_iload_n dX6_only_11 rfl ?_
    refine w_callVr dX6_only_12 k_X6_117 (xN_isLiving) rfl rfl rfl rfl (Nat.le_of_ble_eq_true rfl) (Nat.le_of_ble_eq_true rfl) (Nat.le_of_ble_eq_true rfl) (rc00 rfl (Nat.le_refl 0)) ?_
    refine w_zif_ne (tgt := 20) dX6_only_15 (by decide) (fun c_15 => ?_) (fun c_15 => ?_)
    · skip
      refine w_iconst (v := 0) dX6_only_20 (by decide) ?_
      refine w_istore_3 dX6_only_21 (Nat.le_of_ble_eq_true rfl) rfl ?_
      refine w_iconst (v := 0) dX6_only_22 (by decide) ?_
      refine w_istore_4 dX6_only_23 (Nat.le_of_ble_eq_true rfl) rfl ?_
      exact loop (by assumption) (by assumption) 8 0 rfl
    · skip
      refine w_iconst (v := (-1)) dX6_only_18 (by decide) ?_
      exact w_iret dX6_only_19 rfl (by simp only [cOnly, if_pos, if_neg, not_false_eq_true, if_true, if_false, Bool.false_eq_true, c_4, c_15]; try rfl) rfl rfl (Nat.le_refl 0)

set_option maxRecDepth 100000 in
set_option maxHeartbeats 4000000 in
theorem pm_X6_share {l : Launch} {D : va_G} {N T : WS} {im : Nat → Option Nat} {ps mo op : Nat → Int32} {pn ta tb tw tp tn ka kf ks kc tot : Int32} {t : PH} {x s : Int32} : PM l D YX6_share 4 [.ref 0, .int x, .int s] (XH N im ps pn T ta tb tw tp tn ka kf ks kc mo op tot t) 0 0 (some (.int (cShr N x s))) (XH N im ps pn T ta tb tw tp tn ka kf ks kc mo op tot t) := by
  refine pm_of2 (n0 := (t.length + 28)) kb_YX6_share rfl [some (.ref 0), some (.int x), some (.int s)] (fun _ => rfl) (fun _ => (Nat.le_of_ble_eq_true rfl)) ?_
  refine w_iload_n dX6_share_0 rfl ?_
  refine w_callSr dX6_share_1 k_X6_70 (pm_X6_isBox) rfl rfl (Nat.le_of_ble_eq_true rfl) (Nat.le_of_ble_eq_true rfl) (Nat.le_of_ble_eq_true rfl) (rc00 rfl (Nat.le_refl 0)) ?_
  refine w_zif_eq (tgt := 18) dX6_share_4 (by decide) (fun c_4 => ?_) (fun c_4 => ?_)
  · skip
    refine w_iconst (v := (-1)) dX6_share_18 (by decide) ?_
    exact w_iret dX6_share_19 rfl (by simp only [cShr, if_pos, if_neg, not_false_eq_true, if_true, if_false, Bool.false_eq_true, c_4]; try rfl) rfl rfl (Nat.le_refl 0)
  · skip
    refine w_aload_n dX6_share_7 rfl ?_
    refine w_get dX6_share_8 f_X6_10 rfl rfl ?_
    refine w_iload_n dX6_share_11 rfl ?_
    refine w_callVr dX6_share_12 k_X6_117 (xN_isLiving) rfl rfl rfl rfl (Nat.le_of_ble_eq_true rfl) (Nat.le_of_ble_eq_true rfl) (Nat.le_of_ble_eq_true rfl) (rc00 rfl (Nat.le_refl 0)) ?_
    refine w_zif_ne (tgt := 20) dX6_share_15 (by decide) (fun c_15 => ?_) (fun c_15 => ?_)
    · skip
      refine w_aload_n dX6_share_20 rfl ?_
      refine w_get dX6_share_21 f_X6_10 rfl rfl ?_
      refine w_iload_n dX6_share_24 rfl ?_
      refine w_iload_n dX6_share_25 rfl ?_
      refine w_callVr dX6_share_26 k_X6_166 (xN_shareOf (vin_box (by assumption)) (vin_liv (by assumption))) rfl rfl rfl rfl (Nat.le_of_ble_eq_true rfl) (Nat.le_of_ble_eq_true rfl) (Nat.le_of_ble_eq_true rfl) (rc00 rfl (Nat.le_refl 0)) ?_
      exact w_iret dX6_share_29 rfl (by simp only [cShr, if_pos, if_neg, not_false_eq_true, if_true, if_false, Bool.false_eq_true, c_4, c_15]; try rfl) rfl rfl (Nat.le_refl 0)
    · skip
      refine w_iconst (v := (-1)) dX6_share_18 (by decide) ?_
      exact w_iret dX6_share_19 rfl (by simp only [cShr, if_pos, if_neg, not_false_eq_true, if_true, if_false, Bool.false_eq_true, c_4, c_15]; try rfl) rfl rfl (Nat.le_refl 0)

set_option maxRecDepth 100000 in
set_option maxHeartbeats 4000000 in
theorem pm_X6_match {l : Launch} {D : va_G} {N T : WS} {im : Nat → Option Nat} {ps mo op : Nat → Int32} {pn ta tb tw tp tn ka kf ks kc tot : Int32} {t : PH} {s : Int32} : PM l D YX6_match 7 [.ref 0, .int s] (XH N im ps pn T ta tb tw tp tn ka kf ks kc mo op tot t) 0 0 (some (.int (cMat N mo s))) (XH N im ps pn T ta tb tw tp tn ka kf ks kc (cMaM N mo s) op tot t) := by
  refine pm_of2 (n0 := (t.length + 28)) kb_YX6_match rfl [some (.ref 0), some (.int s)] (fun _ => rfl) (fun _ => (Nat.le_of_ble_eq_true rfl)) ?_
  by_cases hq : s = -1
  · skip
    refine w_iload_n dX6_match_0 rfl ?_
    refine w_iconst (v := (-1)) dX6_match_1 (by decide) ?_
    refine w_icmp_eq_t (tgt := 18) dX6_match_2 (by decide) hq ?_
    refine w_aload_n dX6_match_18 rfl ?_
    refine w_get dX6_match_19 f_X6_37 rfl rfl ?_
    refine w_aload_n dX6_match_22 rfl ?_
    refine w_get dX6_match_23 f_X6_10 rfl rfl ?_
    refine w_callVv dX6_match_26 k_X6_169 (pm_X2_weigh) rfl rfl rfl rfl (Nat.le_of_ble_eq_true rfl) (Nat.le_of_ble_eq_true rfl) (Nat.le_of_ble_eq_true rfl) (rc00 rfl (Nat.le_refl 0)) ?_
    refine w_iload_n dX6_match_29 rfl ?_
    refine w_iconst (v := (-1)) dX6_match_30 (by decide) ?_
    refine w_icmp_ne_f dX6_match_31 ⟨44, by decide⟩ hq ?_
    refine w_aload_n dX6_match_34 rfl ?_
    refine w_get dX6_match_35 f_X6_37 rfl rfl ?_
    refine w_callVr dX6_match_38 k_X6_172 (pm_X2_mostTogether) rfl rfl rfl rfl (Nat.le_of_ble_eq_true rfl) (Nat.le_of_ble_eq_true rfl) (Nat.le_of_ble_eq_true rfl) (rc00 rfl (Nat.le_refl 0)) ?_
    refine w_goto (tgt := 56) dX6_match_41 (by decide) ?_
    exact w_iret dX6_match_56 rfl (by rw [cMat, if_pos hq]) (by rw [cMaM, if_pos hq]) rfl (Nat.le_refl 0)
  by_cases hl : sLiv N s = true
  · obtain ⟨w, hw, rfl⟩ := vp_in_of (vin_liv hl) (by decide)
    refine w_iload_n dX6_match_0 rfl ?_
    refine w_iconst (v := (-1)) dX6_match_1 (by decide) ?_
    refine w_icmp_eq_f dX6_match_2 ⟨18, by decide⟩ hq ?_
    refine w_aload_n dX6_match_5 rfl ?_
    refine w_get dX6_match_6 f_X6_10 rfl rfl ?_
    refine w_iload_n dX6_match_9 rfl ?_
    refine w_callVr dX6_match_10 k_X6_117 (xN_isLiving) rfl rfl rfl rfl (Nat.le_of_ble_eq_true rfl) (Nat.le_of_ble_eq_true rfl) (Nat.le_of_ble_eq_true rfl) (rc00 rfl (Nat.le_refl 0)) ?_
    refine w_zif_ne_t (tgt := 18) dX6_match_13 (by decide) hl ?_
    refine w_aload_n dX6_match_18 rfl ?_
    refine w_get dX6_match_19 f_X6_37 rfl rfl ?_
    refine w_aload_n dX6_match_22 rfl ?_
    refine w_get dX6_match_23 f_X6_10 rfl rfl ?_
    refine w_callVv dX6_match_26 k_X6_169 (pm_X2_weigh) rfl rfl rfl rfl (Nat.le_of_ble_eq_true rfl) (Nat.le_of_ble_eq_true rfl) (Nat.le_of_ble_eq_true rfl) (rc00 rfl (Nat.le_refl 0)) ?_
    refine w_iload_n dX6_match_29 rfl ?_
    refine w_iconst (v := (-1)) dX6_match_30 (by decide) ?_
    refine w_icmp_ne_t (tgt := 44) dX6_match_31 (by decide) hq ?_
    refine w_aload_n dX6_match_44 rfl ?_
    refine w_get dX6_match_45 f_X6_37 rfl rfl ?_
    refine w_aload_n dX6_match_48 rfl ?_
    refine w_get dX6_match_49 f_X6_10 rfl rfl ?_
    refine w_iload_n dX6_match_52 rfl ?_
    refine w_callVr dX6_match_53 k_X6_175 (pm_X2_boxOf hw) rfl rfl rfl rfl (Nat.le_of_ble_eq_true rfl) (Nat.le_of_ble_eq_true rfl) (Nat.le_of_ble_eq_true rfl) (rc00 rfl (Nat.le_refl 0)) ?_
    exact w_iret dX6_match_56 rfl (by rw [cMat, if_neg hq, if_pos hl, nI_clamp (by omega)]) (by rw [cMaM, if_neg hq, if_pos hl]) rfl (Nat.le_refl 0)
  refine w_iload_n dX6_match_0 rfl ?_
  refine w_iconst (v := (-1)) dX6_match_1 (by decide) ?_
  refine w_icmp_eq_f dX6_match_2 ⟨18, by decide⟩ hq ?_
  refine w_aload_n dX6_match_5 rfl ?_
  refine w_get dX6_match_6 f_X6_10 rfl rfl ?_
  refine w_iload_n dX6_match_9 rfl ?_
  refine w_callVr dX6_match_10 k_X6_117 (xN_isLiving) rfl rfl rfl rfl (Nat.le_of_ble_eq_true rfl) (Nat.le_of_ble_eq_true rfl) (Nat.le_of_ble_eq_true rfl) (rc00 rfl (Nat.le_refl 0)) ?_
  refine w_zif_ne_f dX6_match_13 ⟨18, by decide⟩ (Bool.eq_false_iff.mpr hl) ?_
  refine w_iconst (v := (-1)) dX6_match_16 (by decide) ?_
  exact w_iret dX6_match_17 rfl (by rw [cMat, if_neg hq, if_neg hl]) (by rw [cMaM, if_neg hq, if_neg hl]) rfl (Nat.le_refl 0)

