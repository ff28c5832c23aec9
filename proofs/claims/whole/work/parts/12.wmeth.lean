def sLiv (S : WS) (s : Int32) : Bool := sSoul s && sBit (wlv S) s
def sFelt (S : WS) (x s : Int32) : Int32 := bc (wwn S x.toNatClampNeg &&& wmk S s.toNatClampNeg)
def sLets (S : WS) (x s : Int32) : Bool := sBox x && (sLiv S s && decide (whi S x.toNatClampNeg ≤ sFelt S x s))
def fOr (c : Nat → Bool) (i : Nat) (acc : Int32) : Int32 := if c i then acc ||| (1 <<< (nI i &&& 31)) else acc
def bitsOf (c : Nat → Bool) (n : Nat) : Int32 := iter (fOr c) n 0
def sLetIn (S : WS) (x : Int32) : Int32 := bitsOf (fun i => sLets S x (nI i)) 8
def sBoxes (S : WS) (s : Int32) : Int32 := bitsOf (fun i => sLets S (nI i) s) 6
def sCred (S : WS) (s : Int32) : Int32 := bitsOf (fun i => decide (0 < wde S (sDeb s (nI i)).toNatClampNeg)) 8
def fCb (S : WS) (j : Nat) (a : Int32) : Int32 := if sBit a (nI j) then a ||| sCred S (nI j) else a
def sBehind (S : WS) (s : Int32) : Int32 := iter (fun _ a => iter (fCb S) 8 a) 8 (sCred S s)
def sAnoF (S : WS) (s set : Int32) (i : Nat) : Bool := !decide (nI i = s) && (sLiv S (nI i) && decide (wmk S (nI i).toNatClampNeg &&& set = set))
def sAno (S : WS) (s set : Int32) : Bool := (List.range 8).any (sAnoF S s set)
def fNote (S : WS) (s : Int32) (i : Nat) (best : Int32) : Int32 := if decide (nI i &&& wmk S s.toNatClampNeg = nI i) && (decide (best = -6 ∨ bc (nI i) < bc best) && !sAno S s (nI i)) then nI i else best
def sNote (S : WS) (s : Int32) : Int32 := iter (fNote S s) 256 (-6)
def sFeelL (S : WS) (x : Int32) (i : Nat) : Int32 := if sLiv S (nI i) then sFelt S x (nI i) else 0
def sAll (S : WS) (x : Int32) (n : Nat) : Int32 := iter (fun i a => a + sFeelL S x i) n 0
def sOver (S : WS) (x : Int32) (n : Nat) : Int32 := iter (fun i a => a - wco S x.toNatClampNeg * sFeelL S x i / sAll S x 8) n (wco S x.toNatClampNeg)
def sFst (S : WS) (x s : Int32) (i : Nat) : Bool := decide (sFelt S x s < sFeelL S x i) || (decide (sFeelL S x i = sFelt S x s) && decide (nI i < s))
def sAhead (S : WS) (x s : Int32) (n : Nat) : Int32 := iter (fun i a => if sFst S x s i then a + 1 else a) n 0
def sShare (S : WS) (x s : Int32) : Int32 := if sFelt S x s = 0 ∨ sAll S x 8 = 0 then 0 else wco S x.toNatClampNeg * sFelt S x s / sAll S x 8 + (if sAhead S x s 8 < sOver S x 8 then 1 else 0)
def sPurs (S : WS) : Int32 := iter (fun i a => a + (if sLiv S (nI i) then wpu S (nI i).toNatClampNeg else 0)) 8 0
def sCoin (S : WS) : Int32 := iter (fun i a => a + wco S (nI i).toNatClampNeg) 6 0
def sDebz (s : Int32) (j : Nat) (d : Nat → Int32) : Nat → Int32 := upd (upd d (sDeb s (nI j)).toNatClampNeg 0) (sDeb (nI j) s).toNatClampNeg 0
def sBear (S : WS) (s m p : Int32) : WS := (wlv S ||| (1 <<< (s &&& 31)), wyr S, wsg S, wop S, upd (wmk S) s.toNatClampNeg m, upd (wpu S) s.toNatClampNeg p, upd (wwa S) s.toNatClampNeg (-6), iter (sDebz s) 8 (wde S), wwn S, whi S, wco S, wsm S)
def mvD (f t : Int32) (d : Nat → Int32) : Nat → Int32 := upd (upd d t.toNatClampNeg (d f.toNatClampNeg)) f.toNatClampNeg 0
def fMv (s o : Int32) (j : Nat) (d : Nat → Int32) : Nat → Int32 := mvD (sDeb (nI j) s) (sDeb (nI j) o) (mvD (sDeb s (nI j)) (sDeb o (nI j)) d)
def sBack (S : WS) (s o : Int32) : WS := ((wlv S ^^^ (1 <<< (s &&& 31))) ||| (1 <<< (o &&& 31)), wyr S, wsg S, wop S, upd (upd (wmk S) o.toNatClampNeg (wmk S s.toNatClampNeg &&& (wmk S s.toNatClampNeg - 1))) s.toNatClampNeg 0, upd (upd (wpu S) o.toNatClampNeg (wpu S s.toNatClampNeg / 2)) s.toNatClampNeg 0, upd (wwa S) o.toNatClampNeg s, iter (fMv s o) 8 (wde S), wwn S, whi S, wco S, wsm S)
def sFill (S : WS) (s k : Int32) : WS := spu S (upd (wpu S) s.toNatClampNeg (if wpu S s.toNatClampNeg + k < 999 then wpu S s.toNatClampNeg + k else 999))
def sCanL (S : WS) (a b k : Int32) : Bool := decide (k ≤ wpu S a.toNatClampNeg) && decide (wde S (sDeb b a).toNatClampNeg + k ≤ 999)
def sLend1 (S : WS) (a b k : Int32) : WS := sFill (spu S (upd (wpu S) a.toNatClampNeg (wpu S a.toNatClampNeg - k))) b k
def sLend (S : WS) (a b k : Int32) : WS := sde (sLend1 S a b k) (upd (wde S) (sDeb b a).toNatClampNeg (wde S (sDeb b a).toNatClampNeg + k))
def sTry (S : WS) (s x : Int32) : WS := if sLets S x s then sco (sFill S s (wco S x.toNatClampNeg)) (upd (wco S) x.toNatClampNeg 0) else S
def sHind (S : WS) (k f s c : Int32) : Int32 := if k = 0 then (if wyr S < 99 then 0 else 5) else if sLiv S f = false then 1 else if k = 3 then 0 else if f = s then 2 else if k = 1 then (if sSoul s = false ∨ sLiv S s = true then 3 else 0) else if sLiv S s = false then 3 else if sCanL S f s c then 0 else 4
def sPerf (S : WS) (k f s c : Int32) : WS := if k = 0 then syr S (wyr S + 1) else if k = 1 then sBack S f s else if k = 2 then sLend S f s c else sTry S f s
def sAddS (S : WS) (m o : Int32) : WS := if wsg S < 8 then (wlv S, wyr S, wsg S + 1, wop S ||| (if o = 0 then (0 : Int32) else 1 <<< (wsg S &&& 31)), wmk S, wpu S, wwa S, wde S, wwn S, whi S, wco S, upd (wsm S) (wsg S).toNatClampNeg m) else S
theorem vin_soul {s : Int32} (h : sSoul s = true) : vp_in s 8 := by
  simp only [sSoul, Bool.and_eq_true, decide_eq_true_eq, Int32.le_iff_toInt_le, Int32.lt_iff_toInt_lt] at h
  exact vp_in_iff.mpr ⟨h.1, h.2⟩
theorem vin_box {s : Int32} (h : sBox s = true) : vp_in s 6 := by
  simp only [sBox, Bool.and_eq_true, decide_eq_true_eq, Int32.le_iff_toInt_le, Int32.lt_iff_toInt_lt] at h
  exact vp_in_iff.mpr ⟨h.1, h.2⟩
theorem vin_liv {S : WS} {s : Int32} (h : sLiv S s = true) : vp_in s 8 := by
  simp only [sLiv, Bool.and_eq_true] at h
  exact vin_soul h.1
theorem vin_8 {i k n : Nat} (h : i + (k + 1) = n) (hn : n < 2 ^ 31) : vp_in (nI i) n := vp_in_nI (by omega) hn
theorem deb_nI (a b : Nat) : sDeb (nI a) (nI b) = nI (a * 8 + b) := by
  unfold sDeb
  rw [show (8 : Int32) = nI 8 from rfl, pk_mul, nI_add]
theorem vin_deb {a b : Int32} (ha : vp_in a 8) (hb : vp_in b 8) : vp_in (sDeb a b) 64 := by
  obtain ⟨i, hi, rfl⟩ := vp_in_of ha (by decide)
  obtain ⟨j, hj, rfl⟩ := vp_in_of hb (by decide)
  rw [deb_nI]
  exact vp_in_nI (by omega) (by decide)
theorem lp_x {i n : Nat} {x : Int32} (h : i + 0 = n) (hn : n < 2 ^ 31) (hx : x = nI n) : x ≤ nI i := by
  have : i = n := by omega
  rw [this, hx]; exact Int32.le_refl _
theorem lp_g {i k n : Nat} {x : Int32} (h : i + (k + 1) = n) (hn : n < 2 ^ 31) (hx : x = nI n) : ¬ x ≤ nI i := by
  rw [hx]; exact nI_ge (by omega) hn
theorem sLet_box {S : WS} {x s : Int32} (h : sLets S x s = true) : sBox x = true := by simp only [sLets, Bool.and_eq_true] at h; exact h.1
theorem sLet_liv {S : WS} {x s : Int32} (h : sLets S x s = true) : sLiv S s = true := by simp only [sLets, Bool.and_eq_true] at h; exact h.2.1
theorem ci_nI {i k n : Nat} (h : i + (k + 1) = n) (hn : n < 2 ^ 31) : (nI i).toNatClampNeg = i := nI_clamp (by omega)
set_option maxRecDepth 100000 in
set_option maxHeartbeats 4000000 in
theorem pm_X5_isLiving {l : Launch} {D : va_G} {h : PH} {b : Nat} {S : WS} (hb : b + 8 < h.length) {s : Int32} : PM l D YX5_isLiving 2 [.ref b, .int s] (wput h b S) 0 0 (some (.int (b2i (sLiv S s)))) (wput h b S) := by
  refine pm_of2 (n0 := h.length) kb_YX5_isLiving (wlen hb) [some (.ref b), some (.int s)] (fun _ => rfl) (fun _ => (Nat.le_of_ble_eq_true rfl)) ?_
  refine w_iload_n dX5_isLiving_0 rfl ?_
  refine w_callSr dX5_isLiving_1 k_X5_55 (pm_X6_isSoul) rfl rfl (Nat.le_of_ble_eq_true rfl) (Nat.le_of_ble_eq_true rfl) (Nat.le_of_ble_eq_true rfl) (rc00 (wlen hb) (Nat.le_refl 0)) ?_
  refine w_ztif_eq (a := ?a4_1) (b := ?b4_1) (pJ := 23) (tgt := 22) dX5_isLiving_4 (by decide) (fun c_4 k => ?hA4_1) (fun c_4 k => ?hB4_1) ?hk4_1
  case hA4_1 =>
    refine w_iconst (v := 0) dX5_isLiving_22 (by decide) ?_
    exact k
  case hB4_1 =>
    refine w_aload_n dX5_isLiving_7 rfl ?_
    refine w_get dX5_isLiving_8 f_X5_9 (wg0 hb) rfl ?_
    refine w_iload_n dX5_isLiving_11 rfl ?_
    refine w_callSr dX5_isLiving_12 k_X5_59 (pm_X6_hasBit) rfl rfl (Nat.le_of_ble_eq_true rfl) (Nat.le_of_ble_eq_true rfl) (Nat.le_of_ble_eq_true rfl) (rc00 (wlen hb) (Nat.le_refl 0)) ?_
    refine w_ztif_eq (a := ?a15_2) (b := ?b15_2) (pJ := 23) (tgt := 22) dX5_isLiving_15 (by decide) (fun c_15 k => ?hA15_2) (fun c_15 k => ?hB15_2) ?hk15_2
    case hA15_2 =>
      refine w_iconst (v := 0) dX5_isLiving_22 (by decide) ?_
      exact k
    case hB15_2 =>
      refine w_iconst (v := 1) dX5_isLiving_18 (by decide) ?_
      refine w_goto (tgt := 23) dX5_isLiving_19 (by decide) ?_
      exact k
    exact k
  exact w_zretb dX5_isLiving_23 rfl (e_and _ _) rfl (wlen hb) (Nat.le_refl 0)

set_option maxRecDepth 100000 in
set_option maxHeartbeats 4000000 in
theorem pm_X5_felt {l : Launch} {D : va_G} {h : PH} {b : Nat} {S : WS} (hb : b + 8 < h.length) {x s : Int32} (h1 : vp_in x 6) (h2 : vp_in s 8) : PM l D YX5_felt 2 [.ref b, .int x, .int s] (wput h b S) 0 0 (some (.int (sFelt S x s))) (wput h b S) := by
  refine pm_of2 (n0 := h.length) kb_YX5_felt (wlen hb) [some (.ref b), some (.int x), some (.int s)] (fun _ => rfl) (fun _ => (Nat.le_of_ble_eq_true rfl)) ?_
  refine w_aload_n dX5_felt_0 rfl ?_
  refine w_get dX5_felt_1 f_X5_37 (wg0 hb) rfl ?_
  refine w_iload_n dX5_felt_4 rfl ?_
  refine w_iald dX5_felt_5 (wg5 hb) (by assumption) ?_
  refine w_aload_n dX5_felt_6 rfl ?_
  refine w_get dX5_felt_7 f_X5_24 (wg0 hb) rfl ?_
  refine w_iload_n dX5_felt_10 rfl ?_
  refine w_iald dX5_felt_11 (wg1 hb) (by assumption) ?_
  refine w_iand dX5_felt_12 ?_
  refine w_callSr dX5_felt_13 k_X5_67 (pm_bitCount) rfl rfl (Nat.le_of_ble_eq_true rfl) (Nat.le_of_ble_eq_true rfl) (Nat.le_of_ble_eq_true rfl) (rc00 (wlen hb) (Nat.le_refl 0)) ?_
  exact w_iret dX5_felt_16 rfl rfl rfl (wlen hb) (Nat.le_refl 0)

set_option maxRecDepth 100000 in
set_option maxHeartbeats 4000000 in
theorem pm_X5_letsIn {l : Launch} {D : va_G} {h : PH} {b : Nat} {S : WS} (hb : b + 8 < h.length) {x s : Int32} : PM l D YX5_letsIn 3 [.ref b, .int x, .int s] (wput h b S) 0 0 (some (.int (b2i (sLets S x s)))) (wput h b S) := by
  refine pm_of2 (n0 := h.length) kb_YX5_letsIn (wlen hb) [some (.ref b), some (.int x), some (.int s)] (fun _ => rfl) (fun _ => (Nat.le_of_ble_eq_true rfl)) ?_
  refine w_iload_n dX5_letsIn_0 rfl ?_
  refine w_callSr dX5_letsIn_1 k_X5_73 (pm_X6_isBox) rfl rfl (Nat.le_of_ble_eq_true rfl) (Nat.le_of_ble_eq_true rfl) (Nat.le_of_ble_eq_true rfl) (rc00 (wlen hb) (Nat.le_refl 0)) ?_
  refine w_ztif_eq (a := ?a4_1) (b := ?b4_1) (pJ := 35) (tgt := 34) dX5_letsIn_4 (by decide) (fun c_4 k => ?hA4_1) (fun c_4 k => ?hB4_1) ?hk4_1
  case hA4_1 =>
    refine w_iconst (v := 0) dX5_letsIn_34 (by decide) ?_
    exact k
  case hB4_1 =>
    refine w_aload_n dX5_letsIn_7 rfl ?_
    refine w_iload_n dX5_letsIn_8 rfl ?_
    refine w_callVr dX5_letsIn_9 k_X5_76 (pm_X5_isLiving hb) rfl rfl (wg0 hb) rfl (Nat.le_of_ble_eq_true rfl) (Nat.le_of_ble_eq_true rfl) (Nat.le_of_ble_eq_true rfl) (rc00 (wlen hb) (Nat.le_refl 0)) ?_
    refine w_ztif_eq (a := ?a12_2) (b := ?b12_2) (pJ := 35) (tgt := 34) dX5_letsIn_12 (by decide) (fun c_12 k => ?hA12_2) (fun c_12 k => ?hB12_2) ?hk12_2
    case hA12_2 =>
      refine w_iconst (v := 0) dX5_letsIn_34 (by decide) ?_
      exact k
    case hB12_2 =>
      refine w_aload_n dX5_letsIn_15 rfl ?_
      refine w_iload_n dX5_letsIn_16 rfl ?_
      refine w_iload_n dX5_letsIn_17 rfl ?_
      refine w_callVr dX5_letsIn_18 k_X5_79 (pm_X5_felt hb (by first | assumption | exact vin_box (by assumption)) (by first | assumption | exact vin_liv (by assumption) | exact vin_8 (by assumption) (by decide))) rfl rfl (wg0 hb) rfl (Nat.le_of_ble_eq_true rfl) (Nat.le_of_ble_eq_true rfl) (Nat.le_of_ble_eq_true rfl) (rc00 (wlen hb) (Nat.le_refl 0)) ?_
      refine w_aload_n dX5_letsIn_21 rfl ?_
      refine w_get dX5_letsIn_22 f_X5_40 (wg0 hb) rfl ?_
      refine w_iload_n dX5_letsIn_25 rfl ?_
      refine w_iald dX5_letsIn_26 (wg6 hb) (vin_box (by assumption)) ?_
      refine w_ticmp_lt (a := ?a27_3) (b := ?b27_3) (pJ := 35) (tgt := 34) dX5_letsIn_27 (by decide) (fun c_27 k => ?hA27_3) (fun c_27 k => ?hB27_3) ?hk27_3
      case hA27_3 =>
        refine w_iconst (v := 0) dX5_letsIn_34 (by decide) ?_
        exact k
      case hB27_3 =>
        refine w_iconst (v := 1) dX5_letsIn_30 (by decide) ?_
        refine w_goto (tgt := 35) dX5_letsIn_31 (by decide) ?_
        exact k
      exact k
    exact k
  exact w_zretb dX5_letsIn_35 rfl (by simp only [sLets]; cases sBox x <;> cases sLiv S s <;> by_cases hq : whi S x.toNatClampNeg ≤ sFelt S x s <;> simp [b2i, hq, Int32.not_lt, Int32.not_le]) rfl (wlen hb) (Nat.le_refl 0)

set_option maxRecDepth 100000 in
set_option maxHeartbeats 4000000 in
theorem pm_X5_soulsLetIn {l : Launch} {D : va_G} {h : PH} {b : Nat} {S : WS} (hb : b + 8 < h.length) {x : Int32} : PM l D YX5_soulsLetIn 4 [.ref b, .int x] (wput h b S) 0 0 (some (.int (sLetIn S x))) (wput h b S) := by
  refine pm_of2 (n0 := h.length) kb_YX5_soulsLetIn (wlen hb) [some (.ref b), some (.int x), none, none] (fun _ => rfl) (fun _ => (Nat.le_of_ble_eq_true rfl)) ?_
  have loop : ∀ (k i : Nat), i + k = 8 → Wp l D YX5_soulsLetIn (pRm 4 0 0) h.length (fun _ _ _ => True) (mE D h.length 0 0 (some (.int (sLetIn S x))) (wput h b S)) 4 [some (.ref b), some (.int x), some (.int (iter (fOr (fun i => sLets S x (nI i))) i 0)), some (.int (nI i))] [] (wput h b S) 0 := by
    intro k
    induction k with
    | zero =>
      intro i hi
      refine w_iload_n dX5_soulsLetIn_4 rfl ?_
      refine w_bipush (v := 8) dX5_soulsLetIn_5 (by decide) ?_
      refine w_icmp_ge_t (tgt := 31) dX5_soulsLetIn_7 (by decide) (lp_x hi (by decide) rfl) ?_
      have hi : i = 8 := by omega
      subst hi
      refine w_iload_n dX5_soulsLetIn_31 rfl ?_
      exact w_iret dX5_soulsLetIn_32 rfl rfl rfl (wlen hb) (Nat.le_refl 0)
    | succ k ih =>
      intro i hi
      refine w_iload_n dX5_soulsLetIn_4 rfl ?_
      refine w_bipush (v := 8) dX5_soulsLetIn_5 (by decide) ?_
      refine w_icmp_ge_f dX5_soulsLetIn_7 ⟨31, by decide⟩ (lp_g hi (by decide) rfl) ?_
      refine w_aload_n dX5_soulsLetIn_10 rfl ?_
      refine w_iload_n dX5_soulsLetIn_11 rfl ?_
      refine w_iload_n dX5_soulsLetIn_12 rfl ?_
      refine w_callVr dX5_soulsLetIn_13 k_X5_82 (pm_X5_letsIn hb) rfl rfl (wg0 hb) rfl (Nat.le_of_ble_eq_true rfl) (Nat.le_of_ble_eq_true rfl) (Nat.le_of_ble_eq_true rfl) (rc00 (wlen hb) (Nat.le_refl 0)) ?_
      refine w_zif_eq (tgt := 25) dX5_soulsLetIn_16 (by decide) (fun c_16 => ?_) (fun c_16 => ?_)
      · skip
        refine w_iinc_3 (v := 1) dX5_soulsLetIn_25 (by decide) (Nat.le_of_ble_eq_true rfl) rfl ?_
        refine w_goto (tgt := 4) dX5_soulsLetIn_28 (by decide) ?_
        exact w_leq (by simp [iter, fOr, nI_1, c_16]) (ih (i + 1) (by omega))
      · skip
        refine w_iload_n dX5_soulsLetIn_19 rfl ?_
        refine w_iconst (v := 1) dX5_soulsLetIn_20 (by decide) ?_
        refine w_iload_n dX5_soulsLetIn_21 rfl ?_
        refine w_ishl dX5_soulsLetIn_22 ?_
        refine w_ior dX5_soulsLetIn_23 ?_
        refine w_istore_2 dX5_soulsLetIn_24 (Nat.le_of_ble_eq_true rfl) rfl ?_
        refine w_iinc_3 (v := 1) dX5_soulsLetIn_25 (by decide) (Nat.le_of_ble_eq_true rfl) rfl ?_
        refine w_goto (tgt := 4) dX5_soulsLetIn_28 (by decide) ?_
        exact w_leq (by simp [iter, fOr, nI_1, c_16]) (ih (i + 1) (by omega))
  refine w_iconst (v := 0) dX5_soulsLetIn_0 (by decide) ?_
  refine w_istore_2 dX5_soulsLetIn_1 (Nat.le_of_ble_eq_true rfl) rfl ?_
  refine w_iconst (v := 0) dX5_soulsLetIn_2 (by decide) ?_
  refine w_istore_3 dX5_soulsLetIn_3 (Nat.le_of_ble_eq_true rfl) rfl ?_
  exact loop 8 0 rfl

set_option maxRecDepth 100000 in
set_option maxHeartbeats 4000000 in
theorem pm_X5_boxesFor {l : Launch} {D : va_G} {h : PH} {b : Nat} {S : WS} (hb : b + 8 < h.length) {s : Int32} : PM l D YX5_boxesFor 4 [.ref b, .int s] (wput h b S) 0 0 (some (.int (sBoxes S s))) (wput h b S) := by
  refine pm_of2 (n0 := h.length) kb_YX5_boxesFor (wlen hb) [some (.ref b), some (.int s), none, none] (fun _ => rfl) (fun _ => (Nat.le_of_ble_eq_true rfl)) ?_
  have loop : ∀ (k i : Nat), i + k = 6 → Wp l D YX5_boxesFor (pRm 4 0 0) h.length (fun _ _ _ => True) (mE D h.length 0 0 (some (.int (sBoxes S s))) (wput h b S)) 4 [some (.ref b), some (.int s), some (.int (iter (fOr (fun i => sLets S (nI i) s)) i 0)), some (.int (nI i))] [] (wput h b S) 0 := by
    intro k
    induction k with
    | zero =>
      intro i hi
      refine w_iload_n dX5_boxesFor_4 rfl ?_
      refine w_bipush (v := 6) dX5_boxesFor_5 (by decide) ?_
      refine w_icmp_ge_t (tgt := 31) dX5_boxesFor_7 (by decide) (lp_x hi (by decide) rfl) ?_
      have hi : i = 6 := by omega
      subst hi
      refine w_iload_n dX5_boxesFor_31 rfl ?_
      exact w_iret dX5_boxesFor_32 rfl rfl rfl (wlen hb) (Nat.le_refl 0)
    | succ k ih =>
      intro i hi
      refine w_iload_n dX5_boxesFor_4 rfl ?_
      refine w_bipush (v := 6) dX5_boxesFor_5 (by decide) ?_
      refine w_icmp_ge_f dX5_boxesFor_7 ⟨31, by decide⟩ (lp_g hi (by decide) rfl) ?_
      refine w_aload_n dX5_boxesFor_10 rfl ?_
      refine w_iload_n dX5_boxesFor_11 rfl ?_
      refine w_iload_n dX5_boxesFor_12 rfl ?_
      refine w_callVr dX5_boxesFor_13 k_X5_82 (pm_X5_letsIn hb) rfl rfl (wg0 hb) rfl (Nat.le_of_ble_eq_true rfl) (Nat.le_of_ble_eq_true rfl) (Nat.le_of_ble_eq_true rfl) (rc00 (wlen hb) (Nat.le_refl 0)) ?_
      refine w_zif_eq (tgt := 25) dX5_boxesFor_16 (by decide) (fun c_16 => ?_) (fun c_16 => ?_)
      · skip
        refine w_iinc_3 (v := 1) dX5_boxesFor_25 (by decide) (Nat.le_of_ble_eq_true rfl) rfl ?_
        refine w_goto (tgt := 4) dX5_boxesFor_28 (by decide) ?_
        exact w_leq (by simp [iter, fOr, nI_1, c_16]) (ih (i + 1) (by omega))
      · skip
        refine w_iload_n dX5_boxesFor_19 rfl ?_
        refine w_iconst (v := 1) dX5_boxesFor_20 (by decide) ?_
        refine w_iload_n dX5_boxesFor_21 rfl ?_
        refine w_ishl dX5_boxesFor_22 ?_
        refine w_ior dX5_boxesFor_23 ?_
        refine w_istore_2 dX5_boxesFor_24 (Nat.le_of_ble_eq_true rfl) rfl ?_
        refine w_iinc_3 (v := 1) dX5_boxesFor_25 (by decide) (Nat.le_of_ble_eq_true rfl) rfl ?_
        refine w_goto (tgt := 4) dX5_boxesFor_28 (by decide) ?_
        exact w_leq (by simp [iter, fOr, nI_1, c_16]) (ih (i + 1) (by omega))
  refine w_iconst (v := 0) dX5_boxesFor_0 (by decide) ?_
  refine w_istore_2 dX5_boxesFor_1 (Nat.le_of_ble_eq_true rfl) rfl ?_
  refine w_iconst (v := 0) dX5_boxesFor_2 (by decide) ?_
  refine w_istore_3 dX5_boxesFor_3 (Nat.le_of_ble_eq_true rfl) rfl ?_
  exact loop 6 0 rfl

set_option maxRecDepth 100000 in
set_option maxHeartbeats 4000000 in
theorem pm_X5_creditorsOf {l : Launch} {D : va_G} {h : PH} {b : Nat} {S : WS} (hb : b + 8 < h.length) {s : Int32} (hs : vp_in s 8) : PM l D YX5_creditorsOf 2 [.ref b, .int s] (wput h b S) 0 0 (some (.int (sCred S s))) (wput h b S) := by
  refine pm_of2 (n0 := h.length) kb_YX5_creditorsOf (wlen hb) [some (.ref b), some (.int s), none, none] (fun _ => rfl) (fun _ => (Nat.le_of_ble_eq_true rfl)) ?_
  have loop : ∀ (k i : Nat), i + k = 8 → Wp l D YX5_creditorsOf (pRm 2 0 0) h.length (fun _ _ _ => True) (mE D h.length 0 0 (some (.int (sCred S s))) (wput h b S)) 4 [some (.ref b), some (.int s), some (.int (iter (fOr (fun i => decide (0 < wde S (sDeb s (nI i)).toNatClampNeg))) i 0)), some (.int (nI i))] [] (wput h b S) 0 := by
    intro k
    induction k with
    | zero =>
      intro i hi
      refine w_iload_n dX5_creditorsOf_4 rfl ?_
      refine w_bipush (v := 8) dX5_creditorsOf_5 (by decide) ?_
      refine w_icmp_ge_t (tgt := 35) dX5_creditorsOf_7 (by decide) (lp_x hi (by decide) rfl) ?_
      have hi : i = 8 := by omega
      subst hi
      refine w_iload_n dX5_creditorsOf_35 rfl ?_
      exact w_iret dX5_creditorsOf_36 rfl rfl rfl (wlen hb) (Nat.le_refl 0)
    | succ k ih =>
      intro i hi
      refine w_iload_n dX5_creditorsOf_4 rfl ?_
      refine w_bipush (v := 8) dX5_creditorsOf_5 (by decide) ?_
      refine w_icmp_ge_f dX5_creditorsOf_7 ⟨35, by decide⟩ (lp_g hi (by decide) rfl) ?_
      refine w_aload_n dX5_creditorsOf_10 rfl ?_
      refine w_get dX5_creditorsOf_11 f_X5_34 (wg0 hb) rfl ?_
      refine w_iload_n dX5_creditorsOf_14 rfl ?_
      refine w_iload_n dX5_creditorsOf_15 rfl ?_
      refine w_callSr dX5_creditorsOf_16 k_X5_63 (pm_X5_debtPlace) rfl rfl (Nat.le_of_ble_eq_true rfl) (Nat.le_of_ble_eq_true rfl) (Nat.le_of_ble_eq_true rfl) (rc00 (wlen hb) (Nat.le_refl 0)) ?_
      refine w_iald dX5_creditorsOf_19 (wg4 hb) (vin_deb hs (vin_8 hi (by decide))) ?_
      refine w_if_le (tgt := 29) dX5_creditorsOf_20 (by decide) (fun c_20 => ?_) (fun c_20 => ?_)
      · skip
        refine w_iinc_3 (v := 1) dX5_creditorsOf_29 (by decide) (Nat.le_of_ble_eq_true rfl) rfl ?_
        refine w_goto (tgt := 4) dX5_creditorsOf_32 (by decide) ?_
        exact w_leq (by simp [iter, fOr, nI_1, ← Int32.not_le, c_20]) (ih (i + 1) (by omega))
      · skip
        refine w_iload_n dX5_creditorsOf_23 rfl ?_
        refine w_iconst (v := 1) dX5_creditorsOf_24 (by decide) ?_
        refine w_iload_n dX5_creditorsOf_25 rfl ?_
        refine w_ishl dX5_creditorsOf_26 ?_
        refine w_ior dX5_creditorsOf_27 ?_
        refine w_istore_2 dX5_creditorsOf_28 (Nat.le_of_ble_eq_true rfl) rfl ?_
        refine w_iinc_3 (v := 1) dX5_creditorsOf_29 (by decide) (Nat.le_of_ble_eq_true rfl) rfl ?_
        refine w_goto (tgt := 4) dX5_creditorsOf_32 (by decide) ?_
        exact w_leq (by simp [iter, fOr, nI_1, ← Int32.not_le, c_20]) (ih (i + 1) (by omega))
  refine w_iconst (v := 0) dX5_creditorsOf_0 (by decide) ?_
  refine w_istore_2 dX5_creditorsOf_1 (Nat.le_of_ble_eq_true rfl) rfl ?_
  refine w_iconst (v := 0) dX5_creditorsOf_2 (by decide) ?_
  refine w_istore_3 dX5_creditorsOf_3 (Nat.le_of_ble_eq_true rfl) rfl ?_
  exact loop 8 0 rfl

set_option maxRecDepth 100000 in
set_option maxHeartbeats 4000000 in
theorem pm_X5_creditorsBehind {l : Launch} {D : va_G} {h : PH} {b : Nat} {S : WS} (hb : b + 8 < h.length) {s : Int32} (hs : vp_in s 8) : PM l D YX5_creditorsBehind 3 [.ref b, .int s] (wput h b S) 0 0 (some (.int (sBehind S s))) (wput h b S) := by
  refine pm_of2 (n0 := h.length) kb_YX5_creditorsBehind (wlen hb) [some (.ref b), some (.int s), none, none, none] (fun _ => rfl) (fun _ => (Nat.le_of_ble_eq_true rfl)) ?_
  have inner : ∀ (i : Nat) (a : Int32), (∀ o, Wp l D YX5_creditorsBehind (pRm 3 0 0) h.length (fun _ _ _ => True) (mE D h.length 0 0 (some (.int (sBehind S s))) (wput h b S)) 48 [some (.ref b), some (.int s), some (.int (iter (fCb S) 8 a)), some (.int (nI i)), o] [] (wput h b S) 0) → ∀ (k j : Nat), j + k = 8 → Wp l D YX5_creditorsBehind (pRm 3 0 0) h.length (fun _ _ _ => True) (mE D h.length 0 0 (some (.int (sBehind S s))) (wput h b S)) 17 [some (.ref b), some (.int s), some (.int (iter (fCb S) j a)), some (.int (nI i)), some (.int (nI j))] [] (wput h b S) 0 := by
    intro i a out k
    induction k with
    | zero =>
      intro j hj
      refine w_iload dX5_creditorsBehind_17 rfl ?_
      refine w_bipush (v := 8) dX5_creditorsBehind_19 (by decide) ?_
      refine w_icmp_ge_t (tgt := 48) dX5_creditorsBehind_21 (by decide) (lp_x hj (by decide) rfl) ?_
      have hj : j = 8 := by omega
      subst hj
      exact out _
    | succ k ih =>
      intro j hj
      refine w_iload dX5_creditorsBehind_17 rfl ?_
      refine w_bipush (v := 8) dX5_creditorsBehind_19 (by decide) ?_
      refine w_icmp_ge_f dX5_creditorsBehind_21 ⟨48, by decide⟩ (lp_g hj (by decide) rfl) ?_
      refine w_iload_n dX5_creditorsBehind_24 rfl ?_
      refine w_iload dX5_creditorsBehind_25 rfl ?_
      refine w_callSr dX5_creditorsBehind_27 k_X5_59 (pm_X6_hasBit) rfl rfl (Nat.le_of_ble_eq_true rfl) (Nat.le_of_ble_eq_true rfl) (Nat.le_of_ble_eq_true rfl) (rc00 (wlen hb) (Nat.le_refl 0)) ?_
      refine w_zif_eq (tgt := 42) dX5_creditorsBehind_30 (by decide) (fun c_30 => ?_) (fun c_30 => ?_)
      · skip
        refine w_iinc_4 (v := 1) dX5_creditorsBehind_42 (by decide) (Nat.le_of_ble_eq_true rfl) rfl ?_
        refine w_goto (tgt := 17) dX5_creditorsBehind_45 (by decide) ?_
        exact w_leq (by simp [iter, fCb, nI_1, c_30]) (ih (j + 1) (by omega))
      · skip
        refine w_iload_n dX5_creditorsBehind_33 rfl ?_
        refine w_aload_n dX5_creditorsBehind_34 rfl ?_
        refine w_iload dX5_creditorsBehind_35 rfl ?_
        refine w_callVr dX5_creditorsBehind_37 k_X5_124 (pm_X5_creditorsOf hb (by first | assumption | exact vin_8 hj (by decide))) rfl rfl (wg0 hb) rfl (Nat.le_of_ble_eq_true rfl) (Nat.le_of_ble_eq_true rfl) (Nat.le_of_ble_eq_true rfl) (rc00 (wlen hb) (Nat.le_refl 0)) ?_
        refine w_ior dX5_creditorsBehind_40 ?_
        refine w_istore_2 dX5_creditorsBehind_41 (Nat.le_of_ble_eq_true rfl) rfl ?_
        refine w_iinc_4 (v := 1) dX5_creditorsBehind_42 (by decide) (Nat.le_of_ble_eq_true rfl) rfl ?_
        refine w_goto (tgt := 17) dX5_creditorsBehind_45 (by decide) ?_
        exact w_leq (by simp [iter, fCb, nI_1, c_30]) (ih (j + 1) (by omega))
  have loop : ∀ (k i : Nat), i + k = 8 → ∀ o, Wp l D YX5_creditorsBehind (pRm 3 0 0) h.length (fun _ _ _ => True) (mE D h.length 0 0 (some (.int (sBehind S s))) (wput h b S)) 8 [some (.ref b), some (.int s), some (.int (iter (fun _ a => iter (fCb S) 8 a) i (sCred S s))), some (.int (nI i)), o] [] (wput h b S) 0 := by
    intro k
    induction k with
    | zero =>
      intro i hi o
      refine w_iload_n dX5_creditorsBehind_8 rfl ?_
      refine w_bipush (v := 8) dX5_creditorsBehind_9 (by decide) ?_
      refine w_icmp_ge_t (tgt := 54) dX5_creditorsBehind_11 (by decide) (lp_x hi (by decide) rfl) ?_
      have hi : i = 8 := by omega
      subst hi
      refine w_iload_n dX5_creditorsBehind_54 rfl ?_
      exact w_iret dX5_creditorsBehind_55 rfl rfl rfl (wlen hb) (Nat.le_refl 0)
    | succ k ih =>
      intro i hi o
      refine w_iload_n dX5_creditorsBehind_8 rfl ?_
      refine w_bipush (v := 8) dX5_creditorsBehind_9 (by decide) ?_
      refine w_icmp_ge_f dX5_creditorsBehind_11 ⟨54, by decide⟩ (lp_g hi (by decide) rfl) ?_
      refine w_iconst (v := 0) dX5_creditorsBehind_14 (by decide) ?_
      refine w_istore_4 dX5_creditorsBehind_15 (Nat.le_of_ble_eq_true rfl) rfl ?_
      refine inner i _ (fun o => ?_) 8 0 rfl
      refine w_iinc_3 (v := 1) dX5_creditorsBehind_48 (by decide) (Nat.le_of_ble_eq_true rfl) rfl ?_
      refine w_goto (tgt := 8) dX5_creditorsBehind_51 (by decide) ?_
      exact w_leq (by simp [iter, nI_1]) (ih (i + 1) (by omega) o)
  refine w_aload_n dX5_creditorsBehind_0 rfl ?_
  refine w_iload_n dX5_creditorsBehind_1 rfl ?_
  refine w_callVr dX5_creditorsBehind_2 k_X5_124 (pm_X5_creditorsOf hb (by first | assumption | exact vin_8 hj (by decide))) rfl rfl (wg0 hb) rfl (Nat.le_of_ble_eq_true rfl) (Nat.le_of_ble_eq_true rfl) (Nat.le_of_ble_eq_true rfl) (rc00 (wlen hb) (Nat.le_refl 0)) ?_
  refine w_istore_2 dX5_creditorsBehind_5 (Nat.le_of_ble_eq_true rfl) rfl ?_
  refine w_iconst (v := 0) dX5_creditorsBehind_6 (by decide) ?_
  refine w_istore_3 dX5_creditorsBehind_7 (Nat.le_of_ble_eq_true rfl) rfl ?_
  exact loop 8 0 rfl _

theorem any_t {f : Nat → Bool} {n i : Nat} (hi : i < n) (h : f i = true) : (List.range n).any f = true := List.any_eq_true.mpr ⟨i, List.mem_range.mpr hi, h⟩
theorem any_f {f : Nat → Bool} {n : Nat} (h : ∀ i, i < n → f i = false) : (List.range n).any f = false := by
  rw [List.any_eq_false]
  intro x hx
  rw [h x (List.mem_range.mp hx)]
  decide
set_option maxRecDepth 100000 in
set_option maxHeartbeats 4000000 in
theorem pm_X5_anotherHas {l : Launch} {D : va_G} {h : PH} {b : Nat} {S : WS} (hb : b + 8 < h.length) {s q : Int32} : PM l D YX5_anotherHas 3 [.ref b, .int s, .int q] (wput h b S) 0 0 (some (.int (b2i (sAno S s q)))) (wput h b S) := by
  refine pm_of2 (n0 := h.length) kb_YX5_anotherHas (wlen hb) [some (.ref b), some (.int s), some (.int q), none] (fun _ => rfl) (fun _ => (Nat.le_of_ble_eq_true rfl)) ?_
  have loop : ∀ (k i : Nat), i + k = 8 → (∀ j, j < i → sAnoF S s q j = false) → Wp l D YX5_anotherHas (pRm 3 0 0) h.length (fun _ _ _ => True) (mE D h.length 0 0 (some (.int (b2i (sAno S s q)))) (wput h b S)) 2 [some (.ref b), some (.int s), some (.int q), some (.int (nI i))] [] (wput h b S) 0 := by
    intro k
    induction k with
    | zero =>
      intro i hi ho
      refine w_iload_n dX5_anotherHas_2 rfl ?_
      refine w_bipush (v := 8) dX5_anotherHas_3 (by decide) ?_
      refine w_icmp_ge_t (tgt := 41) dX5_anotherHas_5 (by decide) (lp_x hi (by decide) rfl) ?_
      unfold sAno
      refine w_iconst (v := 0) dX5_anotherHas_41 (by decide) ?_
      exact w_zretb dX5_anotherHas_42 rfl (by rw [any_f (fun j hj => ho j (by omega))]; rfl) rfl (wlen hb) (Nat.le_refl 0)
    | succ k ih =>
      intro i hi ho
      refine w_iload_n dX5_anotherHas_2 rfl ?_
      refine w_bipush (v := 8) dX5_anotherHas_3 (by decide) ?_
      refine w_icmp_ge_f dX5_anotherHas_5 ⟨41, by decide⟩ (lp_g hi (by decide) rfl) ?_
      refine w_iload_n dX5_anotherHas_8 rfl ?_
      refine w_iload_n dX5_anotherHas_9 rfl ?_
      refine w_icmp_eq (tgt := 35) dX5_anotherHas_10 (by decide) (fun c_10 => ?_) (fun c_10 => ?_)
      · skip
        refine w_iinc_3 (v := 1) dX5_anotherHas_35 (by decide) (Nat.le_of_ble_eq_true rfl) rfl ?_
        refine w_goto (tgt := 2) dX5_anotherHas_38 (by decide) ?_
        exact w_leq (by rw [nI_1]) (ih (i + 1) (by omega) (lt_s ho (by simp [sAnoF, *])))
      · skip
        refine w_aload_n dX5_anotherHas_13 rfl ?_
        refine w_iload_n dX5_anotherHas_14 rfl ?_
        refine w_callVr dX5_anotherHas_15 k_X5_76 (pm_X5_isLiving hb) rfl rfl (wg0 hb) rfl (Nat.le_of_ble_eq_true rfl) (Nat.le_of_ble_eq_true rfl) (Nat.le_of_ble_eq_true rfl) (rc00 (wlen hb) (Nat.le_refl 0)) ?_
        refine w_zif_eq (tgt := 35) dX5_anotherHas_18 (by decide) (fun c_18 => ?_) (fun c_18 => ?_)
        · skip
          refine w_iinc_3 (v := 1) dX5_anotherHas_35 (by decide) (Nat.le_of_ble_eq_true rfl) rfl ?_
          refine w_goto (tgt := 2) dX5_anotherHas_38 (by decide) ?_
          exact w_leq (by rw [nI_1]) (ih (i + 1) (by omega) (lt_s ho (by simp [sAnoF, *])))
        · skip
          refine w_aload_n dX5_anotherHas_21 rfl ?_
          refine w_get dX5_anotherHas_22 f_X5_24 (wg0 hb) rfl ?_
          refine w_iload_n dX5_anotherHas_25 rfl ?_
          refine w_iald dX5_anotherHas_26 (wg1 hb) (vin_8 hi (by decide)) ?_
          refine w_iload_n dX5_anotherHas_27 rfl ?_
          refine w_iand dX5_anotherHas_28 ?_
          refine w_iload_n dX5_anotherHas_29 rfl ?_
          refine w_icmp_ne (tgt := 35) dX5_anotherHas_30 (by decide) (fun c_30 => ?_) (fun c_30 => ?_)
          · skip
            refine w_iinc_3 (v := 1) dX5_anotherHas_35 (by decide) (Nat.le_of_ble_eq_true rfl) rfl ?_
            refine w_goto (tgt := 2) dX5_anotherHas_38 (by decide) ?_
            exact w_leq (by rw [nI_1]) (ih (i + 1) (by omega) (lt_s ho (by simp [sAnoF, *])))
          · skip
            unfold sAno
            refine w_iconst (v := 1) dX5_anotherHas_33 (by decide) ?_
            exact w_zretb dX5_anotherHas_34 rfl (by rw [any_t (i := i) (by omega) (by simp [sAnoF, c_10, c_18, c_30])]; rfl) rfl (wlen hb) (Nat.le_refl 0)
  refine w_iconst (v := 0) dX5_anotherHas_0 (by decide) ?_
  refine w_istore_3 dX5_anotherHas_1 (Nat.le_of_ble_eq_true rfl) rfl ?_
  exact loop 8 0 rfl (fun j hj => absurd hj (by omega))

theorem lp_x1 {i n : Nat} {x : Int32} (h : i + 0 = n + 1) (hn : n + 1 < 2 ^ 31) (hx : x = nI n) : x < nI i := by
  have : i = n + 1 := by omega
  rw [this, hx]; exact nI_lt (by omega) hn
theorem lp_g1 {i k n : Nat} {x : Int32} (h : i + (k + 1) = n + 1) (hn : n + 1 < 2 ^ 31) (hx : x = nI n) : ¬ x < nI i := by
  rw [hx]; exact nI_nlt (by omega) (by omega)
theorem note_v {b x y : Int32} : (if b = -6 then (1 : Int32) else if y ≤ x then 0 else 1) = 0 ↔ ¬ (b = -6 ∨ x < y) := by
  by_cases h1 : b = -6
  · simp [h1]
  · by_cases h2 : y ≤ x
    · simp [h1, h2, Int32.not_lt]
    · simp [h1, h2, Int32.not_le.mp h2]
set_option maxRecDepth 100000 in
set_option maxHeartbeats 4000000 in
theorem pm_X5_shortestNote {l : Launch} {D : va_G} {h : PH} {b : Nat} {S : WS} (hb : b + 8 < h.length) {s : Int32} (hs : vp_in s 8) : PM l D YX5_shortestNote 4 [.ref b, .int s] (wput h b S) 0 0 (some (.int (sNote S s))) (wput h b S) := by
  refine pm_of2 (n0 := h.length) kb_YX5_shortestNote (wlen hb) [some (.ref b), some (.int s), none, none, none] (fun _ => rfl) (fun _ => (Nat.le_of_ble_eq_true rfl)) ?_
  have loop : ∀ (k i : Nat), i + k = 255 + 1 → ∀ o, Wp l D YX5_shortestNote (pRm 4 0 0) h.length (fun _ _ _ => True) (mE D h.length 0 0 (some (.int (sNote S s))) (wput h b S)) 5 [some (.ref b), some (.int s), some (.int (iter (fNote S s) i (-6))), some (.int (nI i)), o] [] (wput h b S) 0 := by
    intro k
    induction k with
    | zero =>
      intro i hi o
      refine w_iload_n dX5_shortestNote_5 rfl ?_
      refine w_sipush (v := 255) dX5_shortestNote_6 (by decide) ?_
      refine w_icmp_gt_t (tgt := 70) dX5_shortestNote_9 (by decide) (lp_x1 hi (by decide) rfl) ?_
      have hi : i = 256 := by omega
      subst hi
      refine w_iload_n dX5_shortestNote_70 rfl ?_
      exact w_iret dX5_shortestNote_71 rfl rfl rfl (wlen hb) (Nat.le_refl 0)
    | succ k ih =>
      intro i hi o
      have hB : iter (fNote S s) (i + 1) (-6) = fNote S s i (iter (fNote S s) i (-6)) := rfl
      generalize iter (fNote S s) i (-6) = best at hB ⊢
      refine w_iload_n dX5_shortestNote_5 rfl ?_
      refine w_sipush (v := 255) dX5_shortestNote_6 (by decide) ?_
      refine w_icmp_gt_f dX5_shortestNote_9 ⟨70, by decide⟩ (lp_g1 hi (by decide) rfl) ?_
      refine w_iload_n dX5_shortestNote_12 rfl ?_
      refine w_bipush (v := (-6)) dX5_shortestNote_13 (by decide) ?_
      refine w_ticmp_eq (a := ?a15_1) (b := ?b15_1) (pJ := 34) (tgt := 29) dX5_shortestNote_15 (by decide) (fun c_15 k => ?hA15_1) (fun c_15 k => ?hB15_1) ?hk15_1
      case hA15_1 =>
        refine w_iconst (v := 1) dX5_shortestNote_29 (by decide) ?_
        refine w_goto (tgt := 34) dX5_shortestNote_30 (by decide) ?_
        exact k
      case hB15_1 =>
        refine w_iload_n dX5_shortestNote_18 rfl ?_
        refine w_callSr dX5_shortestNote_19 k_X5_67 (pm_bitCount) rfl rfl (Nat.le_of_ble_eq_true rfl) (Nat.le_of_ble_eq_true rfl) (Nat.le_of_ble_eq_true rfl) (rc00 (wlen hb) (Nat.le_refl 0)) ?_
        refine w_iload_n dX5_shortestNote_22 rfl ?_
        refine w_callSr dX5_shortestNote_23 k_X5_67 (pm_bitCount) rfl rfl (Nat.le_of_ble_eq_true rfl) (Nat.le_of_ble_eq_true rfl) (Nat.le_of_ble_eq_true rfl) (rc00 (wlen hb) (Nat.le_refl 0)) ?_
        refine w_ticmp_ge (a := ?a26_2) (b := ?b26_2) (pJ := 34) (tgt := 33) dX5_shortestNote_26 (by decide) (fun c_26 k => ?hA26_2) (fun c_26 k => ?hB26_2) ?hk26_2
        case hA26_2 =>
          refine w_iconst (v := 0) dX5_shortestNote_33 (by decide) ?_
          exact k
        case hB26_2 =>
          refine w_iconst (v := 1) dX5_shortestNote_29 (by decide) ?_
          refine w_goto (tgt := 34) dX5_shortestNote_30 (by decide) ?_
          exact k
        exact k
      refine w_istore_4 dX5_shortestNote_34 (Nat.le_of_ble_eq_true rfl) rfl ?_
      refine w_iload_n dX5_shortestNote_36 rfl ?_
      refine w_aload_n dX5_shortestNote_37 rfl ?_
      refine w_get dX5_shortestNote_38 f_X5_24 (wg0 hb) rfl ?_
      refine w_iload_n dX5_shortestNote_41 rfl ?_
      refine w_iald dX5_shortestNote_42 (wg1 hb) (by assumption) ?_
      refine w_iand dX5_shortestNote_43 ?_
      refine w_iload_n dX5_shortestNote_44 rfl ?_
      refine w_icmp_ne (tgt := 64) dX5_shortestNote_45 (by decide) (fun c_45 => ?_) (fun c_45 => ?_)
      · skip
        refine w_iinc_3 (v := 1) dX5_shortestNote_64 (by decide) (Nat.le_of_ble_eq_true rfl) rfl ?_
        refine w_goto (tgt := 5) dX5_shortestNote_67 (by decide) ?_
        refine w_loc_3 (nI_1 i) (w_loc_2 ?_ (ih (i + 1) (by omega) _))
        rw [hB, fNote]
        try rw [note_v] at c_50
        simp [*]
      · skip
        refine w_iload dX5_shortestNote_48 rfl ?_
        refine w_if_eq (tgt := 64) dX5_shortestNote_50 (by decide) (fun c_50 => ?_) (fun c_50 => ?_)
        · skip
          refine w_iinc_3 (v := 1) dX5_shortestNote_64 (by decide) (Nat.le_of_ble_eq_true rfl) rfl ?_
          refine w_goto (tgt := 5) dX5_shortestNote_67 (by decide) ?_
          refine w_loc_3 (nI_1 i) (w_loc_2 ?_ (ih (i + 1) (by omega) _))
          rw [hB, fNote]
          try rw [note_v] at c_50
          simp [*]
        · skip
          refine w_aload_n dX5_shortestNote_53 rfl ?_
          refine w_iload_n dX5_shortestNote_54 rfl ?_
          refine w_iload_n dX5_shortestNote_55 rfl ?_
          refine w_callVr dX5_shortestNote_56 k_X5_127 (pm_X5_anotherHas hb) rfl rfl (wg0 hb) rfl (Nat.le_of_ble_eq_true rfl) (Nat.le_of_ble_eq_true rfl) (Nat.le_of_ble_eq_true rfl) (rc00 (wlen hb) (Nat.le_refl 0)) ?_
          refine w_zif_ne (tgt := 64) dX5_shortestNote_59 (by decide) (fun c_59 => ?_) (fun c_59 => ?_)
          · skip
            refine w_iinc_3 (v := 1) dX5_shortestNote_64 (by decide) (Nat.le_of_ble_eq_true rfl) rfl ?_
            refine w_goto (tgt := 5) dX5_shortestNote_67 (by decide) ?_
            refine w_loc_3 (nI_1 i) (w_loc_2 ?_ (ih (i + 1) (by omega) _))
            rw [hB, fNote]
            try rw [note_v] at c_50
            simp [*]
          · skip
            refine w_iload_n dX5_shortestNote_62 rfl ?_
            refine w_istore_2 dX5_shortestNote_63 (Nat.le_of_ble_eq_true rfl) rfl ?_
            refine w_iinc_3 (v := 1) dX5_shortestNote_64 (by decide) (Nat.le_of_ble_eq_true rfl) rfl ?_
            refine w_goto (tgt := 5) dX5_shortestNote_67 (by decide) ?_
            refine w_loc_3 (nI_1 i) (w_loc_2 ?_ (ih (i + 1) (by omega) _))
            rw [hB, fNote]
            try rw [note_v] at c_50
            simp [*]
  refine w_bipush (v := (-6)) dX5_shortestNote_0 (by decide) ?_
  refine w_istore_2 dX5_shortestNote_2 (Nat.le_of_ble_eq_true rfl) rfl ?_
  refine w_iconst (v := 0) dX5_shortestNote_3 (by decide) ?_
  refine w_istore_3 dX5_shortestNote_4 (Nat.le_of_ble_eq_true rfl) rfl ?_
  exact loop 256 0 rfl _

set_option maxRecDepth 100000 in
set_option maxHeartbeats 4000000 in
theorem pm_X5_pursesTogether {l : Launch} {D : va_G} {h : PH} {b : Nat} {S : WS} (hb : b + 8 < h.length)  : PM l D YX5_pursesTogether 3 [.ref b] (wput h b S) 0 0 (some (.int (sPurs S))) (wput h b S) := by
  refine pm_of2 (n0 := h.length) kb_YX5_pursesTogether (wlen hb) [some (.ref b), none, none] (fun _ => rfl) (fun _ => (Nat.le_of_ble_eq_true rfl)) ?_
  have loop : ∀ (k i : Nat), i + k = 8 → Wp l D YX5_pursesTogether (pRm 3 0 0) h.length (fun _ _ _ => True) (mE D h.length 0 0 (some (.int (sPurs S))) (wput h b S)) 4 [some (.ref b), some (.int (iter (fun i a => a + (if sLiv S (nI i) then wpu S (nI i).toNatClampNeg else 0)) i 0)), some (.int (nI i))] [] (wput h b S) 0 := by
    intro k
    induction k with
    | zero =>
      intro i hi
      refine w_iload_n dX5_pursesTogether_4 rfl ?_
      refine w_bipush (v := 8) dX5_pursesTogether_5 (by decide) ?_
      refine w_icmp_ge_t (tgt := 37) dX5_pursesTogether_7 (by decide) (lp_x hi (by decide) rfl) ?_
      have hi : i = 8 := by omega
      subst hi
      refine w_iload_n dX5_pursesTogether_37 rfl ?_
      exact w_iret dX5_pursesTogether_38 rfl rfl rfl (wlen hb) (Nat.le_refl 0)
    | succ k ih =>
      intro i hi
      refine w_iload_n dX5_pursesTogether_4 rfl ?_
      refine w_bipush (v := 8) dX5_pursesTogether_5 (by decide) ?_
      refine w_icmp_ge_f dX5_pursesTogether_7 ⟨37, by decide⟩ (lp_g hi (by decide) rfl) ?_
      refine w_iload_n dX5_pursesTogether_10 rfl ?_
      refine w_aload_n dX5_pursesTogether_11 rfl ?_
      refine w_iload_n dX5_pursesTogether_12 rfl ?_
      refine w_callVr dX5_pursesTogether_13 k_X5_76 (pm_X5_isLiving hb) rfl rfl (wg0 hb) rfl (Nat.le_of_ble_eq_true rfl) (Nat.le_of_ble_eq_true rfl) (Nat.le_of_ble_eq_true rfl) (rc00 (wlen hb) (Nat.le_refl 0)) ?_
      refine w_ztif_eq (a := ?a16_1) (b := ?b16_1) (pJ := 29) (tgt := 28) dX5_pursesTogether_16 (by decide) (fun c_16 k => ?hA16_1) (fun c_16 k => ?hB16_1) ?hk16_1
      case hA16_1 =>
        refine w_iconst (v := 0) dX5_pursesTogether_28 (by decide) ?_
        exact k
      case hB16_1 =>
        refine w_aload_n dX5_pursesTogether_19 rfl ?_
        refine w_get dX5_pursesTogether_20 f_X5_28 (wg0 hb) rfl ?_
        refine w_iload_n dX5_pursesTogether_23 rfl ?_
        refine w_iald dX5_pursesTogether_24 (wg2 hb) (vin_8 hi (by decide)) ?_
        refine w_goto (tgt := 29) dX5_pursesTogether_25 (by decide) ?_
        exact k
      refine w_iadd dX5_pursesTogether_29 ?_
      refine w_istore_1 dX5_pursesTogether_30 (Nat.le_of_ble_eq_true rfl) rfl ?_
      refine w_iinc_2 (v := 1) dX5_pursesTogether_31 (by decide) (Nat.le_of_ble_eq_true rfl) rfl ?_
      refine w_goto (tgt := 4) dX5_pursesTogether_34 (by decide) ?_
      exact w_leq (by simp [iter, nI_1, cond_eq_ite]) (ih (i + 1) (by omega))
  refine w_iconst (v := 0) dX5_pursesTogether_0 (by decide) ?_
  refine w_istore_1 dX5_pursesTogether_1 (Nat.le_of_ble_eq_true rfl) rfl ?_
  refine w_iconst (v := 0) dX5_pursesTogether_2 (by decide) ?_
  refine w_istore_2 dX5_pursesTogether_3 (Nat.le_of_ble_eq_true rfl) rfl ?_
  exact loop 8 0 rfl

set_option maxRecDepth 100000 in
set_option maxHeartbeats 4000000 in
theorem pm_X5_coinsLeft {l : Launch} {D : va_G} {h : PH} {b : Nat} {S : WS} (hb : b + 8 < h.length)  : PM l D YX5_coinsLeft 1 [.ref b] (wput h b S) 0 0 (some (.int (sCoin S))) (wput h b S) := by
  refine pm_of2 (n0 := h.length) kb_YX5_coinsLeft (wlen hb) [some (.ref b), none, none] (fun _ => rfl) (fun _ => (Nat.le_of_ble_eq_true rfl)) ?_
  have loop : ∀ (k i : Nat), i + k = 6 → Wp l D YX5_coinsLeft (pRm 1 0 0) h.length (fun _ _ _ => True) (mE D h.length 0 0 (some (.int (sCoin S))) (wput h b S)) 4 [some (.ref b), some (.int (iter (fun i a => a + wco S (nI i).toNatClampNeg) i 0)), some (.int (nI i))] [] (wput h b S) 0 := by
    intro k
    induction k with
    | zero =>
      intro i hi
      refine w_iload_n dX5_coinsLeft_4 rfl ?_
      refine w_bipush (v := 6) dX5_coinsLeft_5 (by decide) ?_
      refine w_icmp_ge_t (tgt := 25) dX5_coinsLeft_7 (by decide) (lp_x hi (by decide) rfl) ?_
      have hi : i = 6 := by omega
      subst hi
      refine w_iload_n dX5_coinsLeft_25 rfl ?_
      exact w_iret dX5_coinsLeft_26 rfl rfl rfl (wlen hb) (Nat.le_refl 0)
    | succ k ih =>
      intro i hi
      refine w_iload_n dX5_coinsLeft_4 rfl ?_
      refine w_bipush (v := 6) dX5_coinsLeft_5 (by decide) ?_
      refine w_icmp_ge_f dX5_coinsLeft_7 ⟨25, by decide⟩ (lp_g hi (by decide) rfl) ?_
      refine w_iload_n dX5_coinsLeft_10 rfl ?_
      refine w_aload_n dX5_coinsLeft_11 rfl ?_
      refine w_get dX5_coinsLeft_12 f_X5_43 (wg0 hb) rfl ?_
      refine w_iload_n dX5_coinsLeft_15 rfl ?_
      refine w_iald dX5_coinsLeft_16 (wg7 hb) (vin_8 hi (by decide)) ?_
      refine w_iadd dX5_coinsLeft_17 ?_
      refine w_istore_1 dX5_coinsLeft_18 (Nat.le_of_ble_eq_true rfl) rfl ?_
      refine w_iinc_2 (v := 1) dX5_coinsLeft_19 (by decide) (Nat.le_of_ble_eq_true rfl) rfl ?_
      refine w_goto (tgt := 4) dX5_coinsLeft_22 (by decide) ?_
      exact w_leq (by simp [iter, nI_1, cond_eq_ite]) (ih (i + 1) (by omega))
  refine w_iconst (v := 0) dX5_coinsLeft_0 (by decide) ?_
  refine w_istore_1 dX5_coinsLeft_1 (Nat.le_of_ble_eq_true rfl) rfl ?_
  refine w_iconst (v := 0) dX5_coinsLeft_2 (by decide) ?_
  refine w_istore_2 dX5_coinsLeft_3 (Nat.le_of_ble_eq_true rfl) rfl ?_
  exact loop 6 0 rfl

set_option maxRecDepth 100000 in
set_option maxHeartbeats 4000000 in
theorem pm_X5_shareOf {l : Launch} {D : va_G} {h : PH} {b : Nat} {S : WS} (hb : b + 8 < h.length) {x s : Int32} (hx : vp_in x 6) (hs : vp_in s 8) : PM l D YX5_shareOf 3 [.ref b, .int x, .int s] (wput h b S) 0 0 (some (.int (sShare S x s))) (wput h b S) := by
  refine pm_of2 (n0 := h.length) kb_YX5_shareOf (wlen hb) [some (.ref b), some (.int x), some (.int s), none, none, none, none, none, none] (fun _ => rfl) (fun _ => (Nat.le_of_ble_eq_true rfl)) ?_
  have loop2 : ¬ sFelt S x s = 0 → ¬ sAll S x 8 = 0 → ∀ (k i : Nat), i + k = 8 → ∀ o, Wp l D YX5_shareOf (pRm 3 0 0) h.length (fun _ _ _ => True) (mE D h.length 0 0 (some (.int (sShare S x s))) (wput h b S)) 76 [some (.ref b), some (.int x), some (.int s), some (.int (sFelt S x s)), some (.int (sAll S x 8)), some (.int (sOver S x i)), some (.int (sAhead S x s i)), some (.int (nI i)), o] [] (wput h b S) 0 := by
    intro hf h0 k
    induction k with
    | zero =>
      intro i hi o
      refine w_iload dX5_shareOf_76 rfl ?_
      refine w_bipush (v := 8) dX5_shareOf_78 (by decide) ?_
      refine w_icmp_ge_t (tgt := 149) dX5_shareOf_80 (by decide) (lp_x hi (by decide) rfl) ?_
      have hi : i = 8 := by omega
      subst hi
      refine w_aload_n dX5_shareOf_149 rfl ?_
      refine w_get dX5_shareOf_150 f_X5_43 (wg0 hb) rfl ?_
      refine w_iload_n dX5_shareOf_153 rfl ?_
      refine w_iald dX5_shareOf_154 (wg7 hb) (by assumption) ?_
      refine w_iload_n dX5_shareOf_155 rfl ?_
      refine w_imul dX5_shareOf_156 ?_
      refine w_iload dX5_shareOf_157 rfl ?_
      refine w_idiv dX5_shareOf_159 h0 ?_
      refine w_iload dX5_shareOf_160 rfl ?_
      refine w_iload dX5_shareOf_162 rfl ?_
      refine w_ticmp_ge (a := ?a164_1) (b := ?b164_1) (pJ := 172) (tgt := 171) dX5_shareOf_164 (by decide) (fun c_164 k => ?hA164_1) (fun c_164 k => ?hB164_1) ?hk164_1
      case hA164_1 =>
        refine w_iconst (v := 0) dX5_shareOf_171 (by decide) ?_
        exact k
      case hB164_1 =>
        refine w_iconst (v := 1) dX5_shareOf_167 (by decide) ?_
        refine w_goto (tgt := 172) dX5_shareOf_168 (by decide) ?_
        exact k
      refine w_iadd dX5_shareOf_172 ?_
      exact w_iret dX5_shareOf_173 rfl (by rw [ite_le]; exact (if_neg (fun q => Or.elim q hf h0)).symm) rfl (wlen hb) (Nat.le_refl 0)
    | succ k ih =>
      intro i hi o
      have e1 : sOver S x (i + 1) = sOver S x i - wco S x.toNatClampNeg * sFeelL S x i / sAll S x 8 := rfl
      have e2 : sAhead S x s (i + 1) = if sFst S x s i then sAhead S x s i + 1 else sAhead S x s i := rfl
      refine w_iload dX5_shareOf_76 rfl ?_
      refine w_bipush (v := 8) dX5_shareOf_78 (by decide) ?_
      refine w_icmp_ge_f dX5_shareOf_80 ⟨149, by decide⟩ (lp_g hi (by decide) rfl) ?_
      refine w_aload_n dX5_shareOf_83 rfl ?_
      refine w_iload dX5_shareOf_84 rfl ?_
      refine w_callVr dX5_shareOf_86 k_X5_76 (pm_X5_isLiving hb) rfl rfl (wg0 hb) rfl (Nat.le_of_ble_eq_true rfl) (Nat.le_of_ble_eq_true rfl) (Nat.le_of_ble_eq_true rfl) (rc00 (wlen hb) (Nat.le_refl 0)) ?_
      refine w_ztif_eq (a := ?a89_2) (b := ?b89_2) (pJ := 103) (tgt := 102) dX5_shareOf_89 (by decide) (fun c_89 k => ?hA89_2) (fun c_89 k => ?hB89_2) ?hk89_2
      case hA89_2 =>
        refine w_iconst (v := 0) dX5_shareOf_102 (by decide) ?_
        exact k
      case hB89_2 =>
        refine w_aload_n dX5_shareOf_92 rfl ?_
        refine w_iload_n dX5_shareOf_93 rfl ?_
        refine w_iload dX5_shareOf_94 rfl ?_
        refine w_callVr dX5_shareOf_96 k_X5_79 (pm_X5_felt hb (by first | assumption | exact vin_box (by assumption)) (by first | assumption | exact vin_liv (by assumption) | exact vin_8 (by assumption) (by decide))) rfl rfl (wg0 hb) rfl (Nat.le_of_ble_eq_true rfl) (Nat.le_of_ble_eq_true rfl) (Nat.le_of_ble_eq_true rfl) (rc00 (wlen hb) (Nat.le_refl 0)) ?_
        refine w_goto (tgt := 103) dX5_shareOf_99 (by decide) ?_
        exact k
      refine w_istore_8 dX5_shareOf_103 (Nat.le_of_ble_eq_true rfl) rfl ?_
      refine w_leq (L2 := [some (.ref b), some (.int x), some (.int s), some (.int (sFelt S x s)), some (.int (sAll S x 8)), some (.int (sOver S x i)), some (.int (sAhead S x s i)), some (.int (nI i)), some (.int (sFeelL S x i))]) (by simp [sFeelL, cond_eq_ite]) ?_
      refine w_iload dX5_shareOf_105 rfl ?_
      refine w_aload_n dX5_shareOf_107 rfl ?_
      refine w_get dX5_shareOf_108 f_X5_43 (wg0 hb) rfl ?_
      refine w_iload_n dX5_shareOf_111 rfl ?_
      refine w_iald dX5_shareOf_112 (wg7 hb) (by assumption) ?_
      refine w_iload dX5_shareOf_113 rfl ?_
      refine w_imul dX5_shareOf_115 ?_
      refine w_iload dX5_shareOf_116 rfl ?_
      refine w_idiv dX5_shareOf_118 h0 ?_
      refine w_isub dX5_shareOf_119 ?_
      refine w_istore_5 dX5_shareOf_120 (Nat.le_of_ble_eq_true rfl) rfl ?_
      refine w_iload dX5_shareOf_122 rfl ?_
      refine w_iload_n dX5_shareOf_124 rfl ?_
      refine w_icmp_gt (tgt := 140) dX5_shareOf_125 (by decide) (fun c_125 => ?_) (fun c_125 => ?_)
      · skip
        refine w_iinc_6 (v := 1) dX5_shareOf_140 (by decide) (Nat.le_of_ble_eq_true rfl) rfl ?_
        refine w_iinc_7 (v := 1) dX5_shareOf_143 (by decide) (Nat.le_of_ble_eq_true rfl) rfl ?_
        refine w_goto (tgt := 76) dX5_shareOf_146 (by decide) ?_
        refine w_loc_7 (nI_1 i) (w_loc_6 ?_ (w_loc_5 e1.symm (ih (i + 1) (by omega) _)))
        rw [e2]
        simp [sFst, ← Int32.not_le, *]
      · skip
        refine w_iload dX5_shareOf_128 rfl ?_
        refine w_iload_n dX5_shareOf_130 rfl ?_
        refine w_icmp_ne (tgt := 143) dX5_shareOf_131 (by decide) (fun c_131 => ?_) (fun c_131 => ?_)
        · skip
          refine w_iinc_7 (v := 1) dX5_shareOf_143 (by decide) (Nat.le_of_ble_eq_true rfl) rfl ?_
          refine w_goto (tgt := 76) dX5_shareOf_146 (by decide) ?_
          refine w_loc_7 (nI_1 i) (w_loc_6 ?_ (w_loc_5 e1.symm (ih (i + 1) (by omega) _)))
          rw [e2]
          simp [sFst, ← Int32.not_le, *]
        · skip
          refine w_iload dX5_shareOf_134 rfl ?_
          refine w_iload_n dX5_shareOf_136 rfl ?_
          refine w_icmp_ge (tgt := 143) dX5_shareOf_137 (by decide) (fun c_137 => ?_) (fun c_137 => ?_)
          · skip
            refine w_iinc_7 (v := 1) dX5_shareOf_143 (by decide) (Nat.le_of_ble_eq_true rfl) rfl ?_
            refine w_goto (tgt := 76) dX5_shareOf_146 (by decide) ?_
            refine w_loc_7 (nI_1 i) (w_loc_6 ?_ (w_loc_5 e1.symm (ih (i + 1) (by omega) _)))
            rw [e2]
            simp [sFst, ← Int32.not_le, *]
          · skip
            refine w_iinc_6 (v := 1) dX5_shareOf_140 (by decide) (Nat.le_of_ble_eq_true rfl) rfl ?_
            refine w_iinc_7 (v := 1) dX5_shareOf_143 (by decide) (Nat.le_of_ble_eq_true rfl) rfl ?_
            refine w_goto (tgt := 76) dX5_shareOf_146 (by decide) ?_
            refine w_loc_7 (nI_1 i) (w_loc_6 ?_ (w_loc_5 e1.symm (ih (i + 1) (by omega) _)))
            rw [e2]
            simp [sFst, ← Int32.not_le, *]
  have loop1 : ∀ (k i : Nat), i + k = 8 → Wp l D YX5_shareOf (pRm 3 0 0) h.length (fun _ _ _ => True) (mE D h.length 0 0 (some (.int (sShare S x s))) (wput h b S)) 13 [some (.ref b), some (.int x), some (.int s), some (.int (sFelt S x s)), some (.int (sAll S x i)), some (.int (nI i)), none, none, none] [] (wput h b S) 0 := by
    intro k
    induction k with
    | zero =>
      intro i hi
      refine w_iload dX5_shareOf_13 rfl ?_
      refine w_bipush (v := 8) dX5_shareOf_15 (by decide) ?_
      refine w_icmp_ge_t (tgt := 51) dX5_shareOf_17 (by decide) (lp_x hi (by decide) rfl) ?_
      have hi : i = 8 := by omega
      subst hi
      refine w_iload_n dX5_shareOf_51 rfl ?_
      refine w_if_eq (tgt := 60) dX5_shareOf_52 (by decide) (fun c_52 => ?_) (fun c_52 => ?_)
      · skip
        refine w_iconst (v := 0) dX5_shareOf_60 (by decide) ?_
        exact w_iret dX5_shareOf_61 rfl (by rw [sShare, if_pos (by simp [*])]) rfl (wlen hb) (Nat.le_refl 0)
      · skip
        refine w_iload dX5_shareOf_55 rfl ?_
        refine w_if_ne (tgt := 62) dX5_shareOf_57 (by decide) (fun c_57 => ?_) (fun c_57 => ?_)
        · skip
          refine w_aload_n dX5_shareOf_62 rfl ?_
          refine w_get dX5_shareOf_63 f_X5_43 (wg0 hb) rfl ?_
          refine w_iload_n dX5_shareOf_66 rfl ?_
          refine w_iald dX5_shareOf_67 (wg7 hb) (by assumption) ?_
          refine w_istore_5 dX5_shareOf_68 (Nat.le_of_ble_eq_true rfl) rfl ?_
          refine w_iconst (v := 0) dX5_shareOf_70 (by decide) ?_
          refine w_istore_6 dX5_shareOf_71 (Nat.le_of_ble_eq_true rfl) rfl ?_
          refine w_iconst (v := 0) dX5_shareOf_73 (by decide) ?_
          refine w_istore_7 dX5_shareOf_74 (Nat.le_of_ble_eq_true rfl) rfl ?_
          exact loop2 (by assumption) (by assumption) 8 0 rfl _
        · skip
          refine w_iconst (v := 0) dX5_shareOf_60 (by decide) ?_
          exact w_iret dX5_shareOf_61 rfl (by rw [sShare, if_pos (by simp [*])]) rfl (wlen hb) (Nat.le_refl 0)
    | succ k ih =>
      intro i hi
      have e1 : sAll S x (i + 1) = sAll S x i + sFeelL S x i := rfl
      refine w_iload dX5_shareOf_13 rfl ?_
      refine w_bipush (v := 8) dX5_shareOf_15 (by decide) ?_
      refine w_icmp_ge_f dX5_shareOf_17 ⟨51, by decide⟩ (lp_g hi (by decide) rfl) ?_
      refine w_iload dX5_shareOf_20 rfl ?_
      refine w_aload_n dX5_shareOf_22 rfl ?_
      refine w_iload dX5_shareOf_23 rfl ?_
      refine w_callVr dX5_shareOf_25 k_X5_76 (pm_X5_isLiving hb) rfl rfl (wg0 hb) rfl (Nat.le_of_ble_eq_true rfl) (Nat.le_of_ble_eq_true rfl) (Nat.le_of_ble_eq_true rfl) (rc00 (wlen hb) (Nat.le_refl 0)) ?_
      refine w_ztif_eq (a := ?a28_3) (b := ?b28_3) (pJ := 42) (tgt := 41) dX5_shareOf_28 (by decide) (fun c_28 k => ?hA28_3) (fun c_28 k => ?hB28_3) ?hk28_3
      case hA28_3 =>
        refine w_iconst (v := 0) dX5_shareOf_41 (by decide) ?_
        exact k
      case hB28_3 =>
        refine w_aload_n dX5_shareOf_31 rfl ?_
        refine w_iload_n dX5_shareOf_32 rfl ?_
        refine w_iload dX5_shareOf_33 rfl ?_
        refine w_callVr dX5_shareOf_35 k_X5_79 (pm_X5_felt hb (by first | assumption | exact vin_box (by assumption)) (by first | assumption | exact vin_liv (by assumption) | exact vin_8 (by assumption) (by decide))) rfl rfl (wg0 hb) rfl (Nat.le_of_ble_eq_true rfl) (Nat.le_of_ble_eq_true rfl) (Nat.le_of_ble_eq_true rfl) (rc00 (wlen hb) (Nat.le_refl 0)) ?_
        refine w_goto (tgt := 42) dX5_shareOf_38 (by decide) ?_
        exact k
      refine w_iadd dX5_shareOf_42 ?_
      refine w_istore_4 dX5_shareOf_43 (Nat.le_of_ble_eq_true rfl) rfl ?_
      refine w_iinc_5 (v := 1) dX5_shareOf_45 (by decide) (Nat.le_of_ble_eq_true rfl) rfl ?_
      refine w_goto (tgt := 13) dX5_shareOf_48 (by decide) ?_
      exact w_leq (by rw [e1, nI_1]; simp [sFeelL, cond_eq_ite]) (ih (i + 1) (by omega))
  refine w_aload_n dX5_shareOf_0 rfl ?_
  refine w_iload_n dX5_shareOf_1 rfl ?_
  refine w_iload_n dX5_shareOf_2 rfl ?_
  refine w_callVr dX5_shareOf_3 k_X5_79 (pm_X5_felt hb (by first | assumption | exact vin_box (by assumption)) (by first | assumption | exact vin_liv (by assumption) | exact vin_8 (by assumption) (by decide))) rfl rfl (wg0 hb) rfl (Nat.le_of_ble_eq_true rfl) (Nat.le_of_ble_eq_true rfl) (Nat.le_of_ble_eq_true rfl) (rc00 (wlen hb) (Nat.le_refl 0)) ?_
  refine w_istore_3 dX5_shareOf_6 (Nat.le_of_ble_eq_true rfl) rfl ?_
  refine w_iconst (v := 0) dX5_shareOf_7 (by decide) ?_
  refine w_istore_4 dX5_shareOf_8 (Nat.le_of_ble_eq_true rfl) rfl ?_
  refine w_iconst (v := 0) dX5_shareOf_10 (by decide) ?_
  refine w_istore_5 dX5_shareOf_11 (Nat.le_of_ble_eq_true rfl) rfl ?_
  exact loop1 8 0 rfl

