def sCpy (S S2 : WS) : WS := (wlv S2, wyr S2, wsg S2, wop S2, va_cpy (wmk S2) (wmk S) 0 0 8, va_cpy (wpu S2) (wpu S) 0 0 8, va_cpy (wwa S2) (wwa S) 0 0 8, va_cpy (wde S2) (wde S) 0 0 64, va_cpy (wwn S2) (wwn S) 0 0 6, va_cpy (whi S2) (whi S) 0 0 6, va_cpy (wco S2) (wco S) 0 0 6, va_cpy (wsm S2) (wsm S) 0 0 8)
section PCP
variable {l : Launch} {D : va_G} {Y : PMth} {R : Room} {n0 : Nat} {X : State → Array Value → Nat → Prop} {E : List Frame → Array Value → State → Nat → State → Prop} {pc nx : Nat} {L : List (Option Value)} {st st0 : List Value} {h h2 : PH} {n b : Nat} {S : WS}
theorem w_cW1 {a0 idx : Nat} {f : Nat → Int32} (hd : dc Y.2.1 pc (.invokestatic idx) 3 nx) (hl : Cond.methodLink Y.1.cls idx arraycopyName ∈ pTb) (hb : b + 8 < h.length) (hc0 : (wput h b S)[a0]? = some (ia 8 f)) (hfr : 1 ≤ R.frames) (hlo : 40 ≤ R.locals) (kk : Wp l D Y R n0 X E nx L [] (wput h b (smk S (va_cpy f (wmk S) 0 0 8))) n) : Wp l D Y R n0 X E pc L (.int 8 :: .int 0 :: .ref (b + 1) :: .int 0 :: .ref a0 :: []) (wput h b S) n :=
  w_copy hd hl hc0 (wg1 hb) (by decide) (by decide) (by decide) (by decide) (by decide) hfr hlo (Nat.zero_le _) (w_heq (wst (k := 1) hb (by decide) rfl) kk)
theorem w_cW2 {a0 idx : Nat} {f : Nat → Int32} (hd : dc Y.2.1 pc (.invokestatic idx) 3 nx) (hl : Cond.methodLink Y.1.cls idx arraycopyName ∈ pTb) (hb : b + 8 < h.length) (hc0 : (wput h b S)[a0]? = some (ia 8 f)) (hfr : 1 ≤ R.frames) (hlo : 40 ≤ R.locals) (kk : Wp l D Y R n0 X E nx L [] (wput h b (spu S (va_cpy f (wpu S) 0 0 8))) n) : Wp l D Y R n0 X E pc L (.int 8 :: .int 0 :: .ref (b + 2) :: .int 0 :: .ref a0 :: []) (wput h b S) n :=
  w_copy hd hl hc0 (wg2 hb) (by decide) (by decide) (by decide) (by decide) (by decide) hfr hlo (Nat.zero_le _) (w_heq (wst (k := 2) hb (by decide) rfl) kk)
theorem w_cW3 {a0 idx : Nat} {f : Nat → Int32} (hd : dc Y.2.1 pc (.invokestatic idx) 3 nx) (hl : Cond.methodLink Y.1.cls idx arraycopyName ∈ pTb) (hb : b + 8 < h.length) (hc0 : (wput h b S)[a0]? = some (ia 8 f)) (hfr : 1 ≤ R.frames) (hlo : 40 ≤ R.locals) (kk : Wp l D Y R n0 X E nx L [] (wput h b (swa S (va_cpy f (wwa S) 0 0 8))) n) : Wp l D Y R n0 X E pc L (.int 8 :: .int 0 :: .ref (b + 3) :: .int 0 :: .ref a0 :: []) (wput h b S) n :=
  w_copy hd hl hc0 (wg3 hb) (by decide) (by decide) (by decide) (by decide) (by decide) hfr hlo (Nat.zero_le _) (w_heq (wst (k := 3) hb (by decide) rfl) kk)
theorem w_cW4 {a0 idx : Nat} {f : Nat → Int32} (hd : dc Y.2.1 pc (.invokestatic idx) 3 nx) (hl : Cond.methodLink Y.1.cls idx arraycopyName ∈ pTb) (hb : b + 8 < h.length) (hc0 : (wput h b S)[a0]? = some (ia 64 f)) (hfr : 1 ≤ R.frames) (hlo : 40 ≤ R.locals) (kk : Wp l D Y R n0 X E nx L [] (wput h b (sde S (va_cpy f (wde S) 0 0 64))) n) : Wp l D Y R n0 X E pc L (.int 64 :: .int 0 :: .ref (b + 4) :: .int 0 :: .ref a0 :: []) (wput h b S) n :=
  w_copy hd hl hc0 (wg4 hb) (by decide) (by decide) (by decide) (by decide) (by decide) hfr hlo (Nat.zero_le _) (w_heq (wst (k := 4) hb (by decide) rfl) kk)
theorem w_cW5 {a0 idx : Nat} {f : Nat → Int32} (hd : dc Y.2.1 pc (.invokestatic idx) 3 nx) (hl : Cond.methodLink Y.1.cls idx arraycopyName ∈ pTb) (hb : b + 8 < h.length) (hc0 : (wput h b S)[a0]? = some (ia 6 f)) (hfr : 1 ≤ R.frames) (hlo : 40 ≤ R.locals) (kk : Wp l D Y R n0 X E nx L [] (wput h b (swn S (va_cpy f (wwn S) 0 0 6))) n) : Wp l D Y R n0 X E pc L (.int 6 :: .int 0 :: .ref (b + 5) :: .int 0 :: .ref a0 :: []) (wput h b S) n :=
  w_copy hd hl hc0 (wg5 hb) (by decide) (by decide) (by decide) (by decide) (by decide) hfr hlo (Nat.zero_le _) (w_heq (wst (k := 5) hb (by decide) rfl) kk)
theorem w_cW6 {a0 idx : Nat} {f : Nat → Int32} (hd : dc Y.2.1 pc (.invokestatic idx) 3 nx) (hl : Cond.methodLink Y.1.cls idx arraycopyName ∈ pTb) (hb : b + 8 < h.length) (hc0 : (wput h b S)[a0]? = some (ia 6 f)) (hfr : 1 ≤ R.frames) (hlo : 40 ≤ R.locals) (kk : Wp l D Y R n0 X E nx L [] (wput h b (shi S (va_cpy f (whi S) 0 0 6))) n) : Wp l D Y R n0 X E pc L (.int 6 :: .int 0 :: .ref (b + 6) :: .int 0 :: .ref a0 :: []) (wput h b S) n :=
  w_copy hd hl hc0 (wg6 hb) (by decide) (by decide) (by decide) (by decide) (by decide) hfr hlo (Nat.zero_le _) (w_heq (wst (k := 6) hb (by decide) rfl) kk)
theorem w_cW7 {a0 idx : Nat} {f : Nat → Int32} (hd : dc Y.2.1 pc (.invokestatic idx) 3 nx) (hl : Cond.methodLink Y.1.cls idx arraycopyName ∈ pTb) (hb : b + 8 < h.length) (hc0 : (wput h b S)[a0]? = some (ia 6 f)) (hfr : 1 ≤ R.frames) (hlo : 40 ≤ R.locals) (kk : Wp l D Y R n0 X E nx L [] (wput h b (sco S (va_cpy f (wco S) 0 0 6))) n) : Wp l D Y R n0 X E pc L (.int 6 :: .int 0 :: .ref (b + 7) :: .int 0 :: .ref a0 :: []) (wput h b S) n :=
  w_copy hd hl hc0 (wg7 hb) (by decide) (by decide) (by decide) (by decide) (by decide) hfr hlo (Nat.zero_le _) (w_heq (wst (k := 7) hb (by decide) rfl) kk)
theorem w_cW8 {a0 idx : Nat} {f : Nat → Int32} (hd : dc Y.2.1 pc (.invokestatic idx) 3 nx) (hl : Cond.methodLink Y.1.cls idx arraycopyName ∈ pTb) (hb : b + 8 < h.length) (hc0 : (wput h b S)[a0]? = some (ia 8 f)) (hfr : 1 ≤ R.frames) (hlo : 40 ≤ R.locals) (kk : Wp l D Y R n0 X E nx L [] (wput h b (ssm S (va_cpy f (wsm S) 0 0 8))) n) : Wp l D Y R n0 X E pc L (.int 8 :: .int 0 :: .ref (b + 8) :: .int 0 :: .ref a0 :: []) (wput h b S) n :=
  w_copy hd hl hc0 (wg8 hb) (by decide) (by decide) (by decide) (by decide) (by decide) hfr hlo (Nat.zero_le _) (w_heq (wst (k := 8) hb (by decide) rfl) kk)
end PCP
set_option maxRecDepth 100000 in
set_option maxHeartbeats 4000000 in
theorem pm_X5_copyFrom {l : Launch} {D : va_G} {h : PH} {b b2 : Nat} {S S2 : WS} (hb : b + 8 < h.length) (o0 : ∀ S, (wput h b S)[b2]? = some (.inr (5, [.int (wlv S2), .int (wyr S2), .int (wsg S2), .int (wop S2), .ref (b2 + 1), .ref (b2 + 2), .ref (b2 + 3), .ref (b2 + 4), .ref (b2 + 5), .ref (b2 + 6), .ref (b2 + 7), .ref (b2 + 8)]))) (o1 : ∀ S, (wput h b S)[b2 + 1]? = some (ia 8 (wmk S2))) (o2 : ∀ S, (wput h b S)[b2 + 2]? = some (ia 8 (wpu S2))) (o3 : ∀ S, (wput h b S)[b2 + 3]? = some (ia 8 (wwa S2))) (o4 : ∀ S, (wput h b S)[b2 + 4]? = some (ia 64 (wde S2))) (o5 : ∀ S, (wput h b S)[b2 + 5]? = some (ia 6 (wwn S2))) (o6 : ∀ S, (wput h b S)[b2 + 6]? = some (ia 6 (whi S2))) (o7 : ∀ S, (wput h b S)[b2 + 7]? = some (ia 6 (wco S2))) (o8 : ∀ S, (wput h b S)[b2 + 8]? = some (ia 8 (wsm S2))) : PM l D YX5_copyFrom 1 [.ref b, .ref b2] (wput h b S) 0 0 none (wput h b (sCpy S S2)) := by
  refine pm_of2 (n0 := h.length) kb_YX5_copyFrom (wlen hb) [some (.ref b), some (.ref b2)] (fun _ => rfl) (fun _ => (Nat.le_of_ble_eq_true rfl)) ?_
  refine w_aload_n dX5_copyFrom_0 rfl ?_
  refine w_aload_n dX5_copyFrom_1 rfl ?_
  refine w_get dX5_copyFrom_2 f_X5_9 (o0 _) rfl ?_
  refine w_pW0 dX5_copyFrom_5 f_X5_9 hb ?_
  refine w_aload_n dX5_copyFrom_8 rfl ?_
  refine w_aload_n dX5_copyFrom_9 rfl ?_
  refine w_get dX5_copyFrom_10 f_X5_15 (o0 _) rfl ?_
  refine w_pW1 dX5_copyFrom_13 f_X5_15 hb ?_
  refine w_aload_n dX5_copyFrom_16 rfl ?_
  refine w_aload_n dX5_copyFrom_17 rfl ?_
  refine w_get dX5_copyFrom_18 f_X5_18 (o0 _) rfl ?_
  refine w_pW2 dX5_copyFrom_21 f_X5_18 hb ?_
  refine w_aload_n dX5_copyFrom_24 rfl ?_
  refine w_aload_n dX5_copyFrom_25 rfl ?_
  refine w_get dX5_copyFrom_26 f_X5_21 (o0 _) rfl ?_
  refine w_pW3 dX5_copyFrom_29 f_X5_21 hb ?_
  refine w_aload_n dX5_copyFrom_32 rfl ?_
  refine w_get dX5_copyFrom_33 f_X5_24 (o0 _) rfl ?_
  refine w_iconst (v := 0) dX5_copyFrom_36 (by decide) ?_
  refine w_aload_n dX5_copyFrom_37 rfl ?_
  refine w_get dX5_copyFrom_38 f_X5_24 (wg0 hb) rfl ?_
  refine w_iconst (v := 0) dX5_copyFrom_41 (by decide) ?_
  refine w_bipush (v := 8) dX5_copyFrom_42 (by decide) ?_
  refine w_cW1 dX5_copyFrom_44 a_X5_49 hb (o1 _) (Nat.le_of_ble_eq_true rfl) (Nat.le_of_ble_eq_true rfl) ?_
  refine w_aload_n dX5_copyFrom_47 rfl ?_
  refine w_get dX5_copyFrom_48 f_X5_28 (o0 _) rfl ?_
  refine w_iconst (v := 0) dX5_copyFrom_51 (by decide) ?_
  refine w_aload_n dX5_copyFrom_52 rfl ?_
  refine w_get dX5_copyFrom_53 f_X5_28 (wg0 hb) rfl ?_
  refine w_iconst (v := 0) dX5_copyFrom_56 (by decide) ?_
  refine w_bipush (v := 8) dX5_copyFrom_57 (by decide) ?_
  refine w_cW2 dX5_copyFrom_59 a_X5_49 hb (o2 _) (Nat.le_of_ble_eq_true rfl) (Nat.le_of_ble_eq_true rfl) ?_
  refine w_aload_n dX5_copyFrom_62 rfl ?_
  refine w_get dX5_copyFrom_63 f_X5_31 (o0 _) rfl ?_
  refine w_iconst (v := 0) dX5_copyFrom_66 (by decide) ?_
  refine w_aload_n dX5_copyFrom_67 rfl ?_
  refine w_get dX5_copyFrom_68 f_X5_31 (wg0 hb) rfl ?_
  refine w_iconst (v := 0) dX5_copyFrom_71 (by decide) ?_
  refine w_bipush (v := 8) dX5_copyFrom_72 (by decide) ?_
  refine w_cW3 dX5_copyFrom_74 a_X5_49 hb (o3 _) (Nat.le_of_ble_eq_true rfl) (Nat.le_of_ble_eq_true rfl) ?_
  refine w_aload_n dX5_copyFrom_77 rfl ?_
  refine w_get dX5_copyFrom_78 f_X5_34 (o0 _) rfl ?_
  refine w_iconst (v := 0) dX5_copyFrom_81 (by decide) ?_
  refine w_aload_n dX5_copyFrom_82 rfl ?_
  refine w_get dX5_copyFrom_83 f_X5_34 (wg0 hb) rfl ?_
  refine w_iconst (v := 0) dX5_copyFrom_86 (by decide) ?_
  refine w_bipush (v := 64) dX5_copyFrom_87 (by decide) ?_
  refine w_cW4 dX5_copyFrom_89 a_X5_49 hb (o4 _) (Nat.le_of_ble_eq_true rfl) (Nat.le_of_ble_eq_true rfl) ?_
  refine w_aload_n dX5_copyFrom_92 rfl ?_
  refine w_get dX5_copyFrom_93 f_X5_37 (o0 _) rfl ?_
  refine w_iconst (v := 0) dX5_copyFrom_96 (by decide) ?_
  refine w_aload_n dX5_copyFrom_97 rfl ?_
  refine w_get dX5_copyFrom_98 f_X5_37 (wg0 hb) rfl ?_
  refine w_iconst (v := 0) dX5_copyFrom_101 (by decide) ?_
  refine w_bipush (v := 6) dX5_copyFrom_102 (by decide) ?_
  refine w_cW5 dX5_copyFrom_104 a_X5_49 hb (o5 _) (Nat.le_of_ble_eq_true rfl) (Nat.le_of_ble_eq_true rfl) ?_
  refine w_aload_n dX5_copyFrom_107 rfl ?_
  refine w_get dX5_copyFrom_108 f_X5_40 (o0 _) rfl ?_
  refine w_iconst (v := 0) dX5_copyFrom_111 (by decide) ?_
  refine w_aload_n dX5_copyFrom_112 rfl ?_
  refine w_get dX5_copyFrom_113 f_X5_40 (wg0 hb) rfl ?_
  refine w_iconst (v := 0) dX5_copyFrom_116 (by decide) ?_
  refine w_bipush (v := 6) dX5_copyFrom_117 (by decide) ?_
  refine w_cW6 dX5_copyFrom_119 a_X5_49 hb (o6 _) (Nat.le_of_ble_eq_true rfl) (Nat.le_of_ble_eq_true rfl) ?_
  refine w_aload_n dX5_copyFrom_122 rfl ?_
  refine w_get dX5_copyFrom_123 f_X5_43 (o0 _) rfl ?_
  refine w_iconst (v := 0) dX5_copyFrom_126 (by decide) ?_
  refine w_aload_n dX5_copyFrom_127 rfl ?_
  refine w_get dX5_copyFrom_128 f_X5_43 (wg0 hb) rfl ?_
  refine w_iconst (v := 0) dX5_copyFrom_131 (by decide) ?_
  refine w_bipush (v := 6) dX5_copyFrom_132 (by decide) ?_
  refine w_cW7 dX5_copyFrom_134 a_X5_49 hb (o7 _) (Nat.le_of_ble_eq_true rfl) (Nat.le_of_ble_eq_true rfl) ?_
  refine w_aload_n dX5_copyFrom_137 rfl ?_
  refine w_get dX5_copyFrom_138 f_X5_46 (o0 _) rfl ?_
  refine w_iconst (v := 0) dX5_copyFrom_141 (by decide) ?_
  refine w_aload_n dX5_copyFrom_142 rfl ?_
  refine w_get dX5_copyFrom_143 f_X5_46 (wg0 hb) rfl ?_
  refine w_iconst (v := 0) dX5_copyFrom_146 (by decide) ?_
  refine w_bipush (v := 8) dX5_copyFrom_147 (by decide) ?_
  refine w_cW8 dX5_copyFrom_149 a_X5_49 hb (o8 _) (Nat.le_of_ble_eq_true rfl) (Nat.le_of_ble_eq_true rfl) ?_
  exact w_vret dX5_copyFrom_152 rfl rfl (wlen hb) (Nat.le_refl 0)

theorem xN_isLiving {l : Launch} {D : va_G} {N T : WS} {im : Nat → Option Nat} {ps mo op : Nat → Int32} {pn ta tb tw tp tn ka kf ks kc tot : Int32} {t : PH} {s : Int32} : PM l D YX5_isLiving 2 [.ref 1, .int s] (XH N im ps pn T ta tb tw tp tn ka kf ks kc mo op tot t) 0 0 (some (.int (b2i (sLiv N s)))) (XH N im ps pn T ta tb tw tp tn ka kf ks kc mo op tot t) :=
  pm_X5_isLiving (h := (XH N im ps pn T ta tb tw tp tn ka kf ks kc mo op tot t)) (b := 1) (S := N) xb1 
theorem xN_letsIn {l : Launch} {D : va_G} {N T : WS} {im : Nat → Option Nat} {ps mo op : Nat → Int32} {pn ta tb tw tp tn ka kf ks kc tot : Int32} {t : PH} {x s : Int32} : PM l D YX5_letsIn 3 [.ref 1, .int x, .int s] (XH N im ps pn T ta tb tw tp tn ka kf ks kc mo op tot t) 0 0 (some (.int (b2i (sLets N x s)))) (XH N im ps pn T ta tb tw tp tn ka kf ks kc mo op tot t) :=
  pm_X5_letsIn (h := (XH N im ps pn T ta tb tw tp tn ka kf ks kc mo op tot t)) (b := 1) (S := N) xb1 
theorem xT_isLiving {l : Launch} {D : va_G} {N T : WS} {im : Nat → Option Nat} {ps mo op : Nat → Int32} {pn ta tb tw tp tn ka kf ks kc tot : Int32} {t : PH} {s : Int32} : PM l D YX5_isLiving 2 [.ref 14, .int s] (XH N im ps pn T ta tb tw tp tn ka kf ks kc mo op tot t) 0 0 (some (.int (b2i (sLiv T s)))) (XH N im ps pn T ta tb tw tp tn ka kf ks kc mo op tot t) :=
  pm_X5_isLiving (h := (XH N im ps pn T ta tb tw tp tn ka kf ks kc mo op tot t)) (b := 14) (S := T) xb14 
theorem xT_letsIn {l : Launch} {D : va_G} {N T : WS} {im : Nat → Option Nat} {ps mo op : Nat → Int32} {pn ta tb tw tp tn ka kf ks kc tot : Int32} {t : PH} {x s : Int32} : PM l D YX5_letsIn 3 [.ref 14, .int x, .int s] (XH N im ps pn T ta tb tw tp tn ka kf ks kc mo op tot t) 0 0 (some (.int (b2i (sLets T x s)))) (XH N im ps pn T ta tb tw tp tn ka kf ks kc mo op tot t) :=
  pm_X5_letsIn (h := (XH N im ps pn T ta tb tw tp tn ka kf ks kc mo op tot t)) (b := 14) (S := T) xb14 
theorem xN_felt {l : Launch} {D : va_G} {N T : WS} {im : Nat → Option Nat} {ps mo op : Nat → Int32} {pn ta tb tw tp tn ka kf ks kc tot : Int32} {t : PH} {x s : Int32} (h1 : vp_in x 6) (h2 : vp_in s 8) : PM l D YX5_felt 2 [.ref 1, .int x, .int s] (XH N im ps pn T ta tb tw tp tn ka kf ks kc mo op tot t) 0 0 (some (.int (sFelt N x s))) (XH N im ps pn T ta tb tw tp tn ka kf ks kc mo op tot t) :=
  pm_X5_felt (h := (XH N im ps pn T ta tb tw tp tn ka kf ks kc mo op tot t)) (b := 1) (S := N) xb1 h1 h2
theorem xN_soulsLetIn {l : Launch} {D : va_G} {N T : WS} {im : Nat → Option Nat} {ps mo op : Nat → Int32} {pn ta tb tw tp tn ka kf ks kc tot : Int32} {t : PH} {x : Int32} : PM l D YX5_soulsLetIn 4 [.ref 1, .int x] (XH N im ps pn T ta tb tw tp tn ka kf ks kc mo op tot t) 0 0 (some (.int (sLetIn N x))) (XH N im ps pn T ta tb tw tp tn ka kf ks kc mo op tot t) :=
  pm_X5_soulsLetIn (h := (XH N im ps pn T ta tb tw tp tn ka kf ks kc mo op tot t)) (b := 1) (S := N) xb1 
theorem xN_boxesFor {l : Launch} {D : va_G} {N T : WS} {im : Nat → Option Nat} {ps mo op : Nat → Int32} {pn ta tb tw tp tn ka kf ks kc tot : Int32} {t : PH} {s : Int32} : PM l D YX5_boxesFor 4 [.ref 1, .int s] (XH N im ps pn T ta tb tw tp tn ka kf ks kc mo op tot t) 0 0 (some (.int (sBoxes N s))) (XH N im ps pn T ta tb tw tp tn ka kf ks kc mo op tot t) :=
  pm_X5_boxesFor (h := (XH N im ps pn T ta tb tw tp tn ka kf ks kc mo op tot t)) (b := 1) (S := N) xb1 
theorem xN_creditorsBehind {l : Launch} {D : va_G} {N T : WS} {im : Nat → Option Nat} {ps mo op : Nat → Int32} {pn ta tb tw tp tn ka kf ks kc tot : Int32} {t : PH} {s : Int32} (hs : vp_in s 8) : PM l D YX5_creditorsBehind 3 [.ref 1, .int s] (XH N im ps pn T ta tb tw tp tn ka kf ks kc mo op tot t) 0 0 (some (.int (sBehind N s))) (XH N im ps pn T ta tb tw tp tn ka kf ks kc mo op tot t) :=
  pm_X5_creditorsBehind (h := (XH N im ps pn T ta tb tw tp tn ka kf ks kc mo op tot t)) (b := 1) (S := N) xb1 hs
theorem xN_shortestNote {l : Launch} {D : va_G} {N T : WS} {im : Nat → Option Nat} {ps mo op : Nat → Int32} {pn ta tb tw tp tn ka kf ks kc tot : Int32} {t : PH} {s : Int32} (hs : vp_in s 8) : PM l D YX5_shortestNote 4 [.ref 1, .int s] (XH N im ps pn T ta tb tw tp tn ka kf ks kc mo op tot t) 0 0 (some (.int (sNote N s))) (XH N im ps pn T ta tb tw tp tn ka kf ks kc mo op tot t) :=
  pm_X5_shortestNote (h := (XH N im ps pn T ta tb tw tp tn ka kf ks kc mo op tot t)) (b := 1) (S := N) xb1 hs
theorem xN_shareOf {l : Launch} {D : va_G} {N T : WS} {im : Nat → Option Nat} {ps mo op : Nat → Int32} {pn ta tb tw tp tn ka kf ks kc tot : Int32} {t : PH} {x s : Int32} (hx : vp_in x 6) (hs : vp_in s 8) : PM l D YX5_shareOf 3 [.ref 1, .int x, .int s] (XH N im ps pn T ta tb tw tp tn ka kf ks kc mo op tot t) 0 0 (some (.int (sShare N x s))) (XH N im ps pn T ta tb tw tp tn ka kf ks kc mo op tot t) :=
  pm_X5_shareOf (h := (XH N im ps pn T ta tb tw tp tn ka kf ks kc mo op tot t)) (b := 1) (S := N) xb1 hx hs
theorem xN_bear {l : Launch} {D : va_G} {N T : WS} {im : Nat → Option Nat} {ps mo op : Nat → Int32} {pn ta tb tw tp tn ka kf ks kc tot : Int32} {t : PH} {s q p : Int32} (hs : vp_in s 8) : PM l D YX5_bear 2 [.ref 1, .int s, .int q, .int p] (XH N im ps pn T ta tb tw tp tn ka kf ks kc mo op tot t) 0 0 none (XH (sBear N s q p) im ps pn T ta tb tw tp tn ka kf ks kc mo op tot t) :=
  pm_X5_bear (h := (XH N im ps pn T ta tb tw tp tn ka kf ks kc mo op tot t)) (b := 1) (S := N) xb1 hs
theorem xN_addSight {l : Launch} {D : va_G} {N T : WS} {im : Nat → Option Nat} {ps mo op : Nat → Int32} {pn ta tb tw tp tn ka kf ks kc tot : Int32} {t : PH} {q o : Int32} (hg : 0 ≤ wsg N) : PM l D YX5_addSight 1 [.ref 1, .int q, .int o] (XH N im ps pn T ta tb tw tp tn ka kf ks kc mo op tot t) 0 0 (some (.int (b2i (decide (wsg N < 8))))) (XH (sAddS N q o) im ps pn T ta tb tw tp tn ka kf ks kc mo op tot t) :=
  pm_X5_addSight (h := (XH N im ps pn T ta tb tw tp tn ka kf ks kc mo op tot t)) (b := 1) (S := N) xb1 hg
theorem xT_pursesTogether {l : Launch} {D : va_G} {N T : WS} {im : Nat → Option Nat} {ps mo op : Nat → Int32} {pn ta tb tw tp tn ka kf ks kc tot : Int32} {t : PH}  : PM l D YX5_pursesTogether 3 [.ref 14] (XH N im ps pn T ta tb tw tp tn ka kf ks kc mo op tot t) 0 0 (some (.int (sPurs T))) (XH N im ps pn T ta tb tw tp tn ka kf ks kc mo op tot t) :=
  pm_X5_pursesTogether (h := (XH N im ps pn T ta tb tw tp tn ka kf ks kc mo op tot t)) (b := 14) (S := T) xb14 
theorem xT_coinsLeft {l : Launch} {D : va_G} {N T : WS} {im : Nat → Option Nat} {ps mo op : Nat → Int32} {pn ta tb tw tp tn ka kf ks kc tot : Int32} {t : PH}  : PM l D YX5_coinsLeft 1 [.ref 14] (XH N im ps pn T ta tb tw tp tn ka kf ks kc mo op tot t) 0 0 (some (.int (sCoin T))) (XH N im ps pn T ta tb tw tp tn ka kf ks kc mo op tot t) :=
  pm_X5_coinsLeft (h := (XH N im ps pn T ta tb tw tp tn ka kf ks kc mo op tot t)) (b := 14) (S := T) xb14 
theorem xT_hindrance {l : Launch} {D : va_G} {N T : WS} {im : Nat → Option Nat} {ps mo op : Nat → Int32} {pn ta tb tw tp tn ka kf ks kc tot : Int32} {t : PH}  : PM l D YX5_hindrance 3 [.ref 14, .ref 23] (XH N im ps pn T ta tb tw tp tn ka kf ks kc mo op tot t) 0 0 (some (.int (sHind T ka kf ks kc))) (XH N im ps pn T ta tb tw tp tn ka kf ks kc mo op tot t) :=
  pm_X5_hindrance (h := (XH N im ps pn T ta tb tw tp tn ka kf ks kc mo op tot t)) (b := 14) (S := T) xb14 rfl
theorem xT_perform {l : Launch} {D : va_G} {N T : WS} {im : Nat → Option Nat} {ps mo op : Nat → Int32} {pn ta tb tw tp tn ka kf ks kc tot : Int32} {t : PH} (hk : ka = 0 ∨ ka = 1 ∨ ka = 2 ∨ ka = 3) (h1 : ka = 1 → vp_in kf 8 ∧ vp_in ks 8 ∧ ¬ kf.toNatClampNeg = ks.toNatClampNeg) (h2 : ka = 2 → vp_in kf 8 ∧ vp_in ks 8) : PM l D YX5_perform 5 [.ref 14, .ref 23] (XH N im ps pn T ta tb tw tp tn ka kf ks kc mo op tot t) 0 0 none (XH N im ps pn (sPerf T ka kf ks kc) ta tb tw tp tn ka kf ks kc mo op tot t) :=
  pm_X5_perform (h := (XH N im ps pn T ta tb tw tp tn ka kf ks kc mo op tot t)) (b := 14) (S := T) xb14 rfl hk h1 h2
theorem xT_copyFrom {l : Launch} {D : va_G} {N T : WS} {im : Nat → Option Nat} {ps mo op : Nat → Int32} {pn ta tb tw tp tn ka kf ks kc tot : Int32} {t : PH}  : PM l D YX5_copyFrom 1 [.ref 14, .ref 1] (XH N im ps pn T ta tb tw tp tn ka kf ks kc mo op tot t) 0 0 none (XH N im ps pn (sCpy T N) ta tb tw tp tn ka kf ks kc mo op tot t) :=
  pm_X5_copyFrom (h := (XH N im ps pn T ta tb tw tp tn ka kf ks kc mo op tot t)) (b := 14) (S := T) xb14 (b2 := 1) (S2 := N) (fun _ => rfl) (fun _ => rfl) (fun _ => rfl) (fun _ => rfl) (fun _ => rfl) (fun _ => rfl) (fun _ => rfl) (fun _ => rfl) (fun _ => rfl)
theorem xN_copyFrom {l : Launch} {D : va_G} {N T : WS} {im : Nat → Option Nat} {ps mo op : Nat → Int32} {pn ta tb tw tp tn ka kf ks kc tot : Int32} {t : PH}  : PM l D YX5_copyFrom 1 [.ref 1, .ref 14] (XH N im ps pn T ta tb tw tp tn ka kf ks kc mo op tot t) 0 0 none (XH (sCpy N T) im ps pn T ta tb tw tp tn ka kf ks kc mo op tot t) :=
  pm_X5_copyFrom (h := (XH N im ps pn T ta tb tw tp tn ka kf ks kc mo op tot t)) (b := 1) (S := N) xb1 (b2 := 14) (S2 := T) (fun _ => rfl) (fun _ => rfl) (fun _ => rfl) (fun _ => rfl) (fun _ => rfl) (fun _ => rfl) (fun _ => rfl) (fun _ => rfl) (fun _ => rfl)
def sSgn (ps : Nat → Int32) (pn i : Int32) : Int32 := if i < 0 then 0 else if pn ≤ i then 0 else ps i.toNatClampNeg
def sStep (a g : Int32) : Int32 :=
  if a = 0 then (if g = 46 then 0 else if sIn g 65 72 then 1 else -6)
  else if a = 1 then (if g = 62 then 3 else if g = 61 then 2 else if sIn g 48 53 then 0 else -6)
  else if a = 2 then (if sIn g 49 57 then 3 else -6)
  else (if sIn g 65 72 then 0 else -6)
def fgo (ps : Nat → Int32) (pn : Int32) : Nat → Nat → Int32 → Int32
  | 0, i, a => if a = 0 then -6 else nI i
  | k + 1, i, a => if sStep a (sSgn ps pn (nI i)) = -6 then nI i else fgo ps pn k (i + 1) (sStep a (sSgn ps pn (nI i)))
theorem sgn_in {pn i : Int32} (hp : pn ≤ 60) (h1 : ¬ i < 0) (h2 : ¬ pn ≤ i) : vp_in i 60 := by
  simp only [Int32.le_iff_toInt_le, Int32.lt_iff_toInt_lt] at hp h1 h2
  have e1 : (60 : Int32).toInt = 60 := rfl
  have e0 : (0 : Int32).toInt = 0 := rfl
  exact vp_in_iff.mpr ⟨by omega, by omega⟩
set_option maxRecDepth 100000 in
set_option maxHeartbeats 4000000 in
theorem pm_X3_signAt {l : Launch} {D : va_G} {N T : WS} {im : Nat → Option Nat} {ps mo op : Nat → Int32} {pn ta tb tw tp tn ka kf ks kc tot : Int32} {t : PH} {i : Int32} (hp : pn ≤ 60) : PM l D YX3_signAt 1 [.ref 11, .int i] (XH N im ps pn T ta tb tw tp tn ka kf ks kc mo op tot t) 0 0 (some (.int (sSgn ps pn i))) (XH N im ps pn T ta tb tw tp tn ka kf ks kc mo op tot t) := by
  refine pm_of2 (n0 := (t.length + 28)) kb_YX3_signAt rfl [some (.ref 11), some (.int i)] (fun _ => rfl) (fun _ => (Nat.le_of_ble_eq_true rfl)) ?_
  refine w_iload_n dX3_signAt_0 rfl ?_
  refine w_tif_lt (a := ?a1_1) (b := ?b1_1) (pJ := 22) (tgt := 21) dX3_signAt_1 (by decide) (fun c_1 k => ?hA1_1) (fun c_1 k => ?hB1_1) ?hk1_1
  case hA1_1 =>
    refine w_iconst (v := 0) dX3_signAt_21 (by decide) ?_
    exact k
  case hB1_1 =>
    refine w_iload_n dX3_signAt_4 rfl ?_
    refine w_aload_n dX3_signAt_5 rfl ?_
    refine w_get dX3_signAt_6 f_X3_15 rfl rfl ?_
    refine w_ticmp_ge (a := ?a9_2) (b := ?b9_2) (pJ := 22) (tgt := 21) dX3_signAt_9 (by decide) (fun c_9 k => ?hA9_2) (fun c_9 k => ?hB9_2) ?hk9_2
    case hA9_2 =>
      refine w_iconst (v := 0) dX3_signAt_21 (by decide) ?_
      exact k
    case hB9_2 =>
      refine w_aload_n dX3_signAt_12 rfl ?_
      refine w_get dX3_signAt_13 f_X3_9 rfl rfl ?_
      refine w_iload_n dX3_signAt_16 rfl ?_
      refine w_iald dX3_signAt_17 rfl (sgn_in hp c_1 c_9) ?_
      refine w_goto (tgt := 22) dX3_signAt_18 (by decide) ?_
      exact k
    exact k
  exact w_iret dX3_signAt_22 rfl rfl rfl rfl (Nat.le_refl 0)

theorem put_in {pn : Int32} (hp : 0 ≤ pn) (h : pn < 60) : vp_in pn 60 := by
  simp only [Int32.le_iff_toInt_le, Int32.lt_iff_toInt_lt] at hp h
  exact vp_in_iff.mpr ⟨hp, h⟩
set_option maxRecDepth 100000 in
set_option maxHeartbeats 4000000 in
theorem pm_X3_put {l : Launch} {D : va_G} {N T : WS} {im : Nat → Option Nat} {ps mo op : Nat → Int32} {pn ta tb tw tp tn ka kf ks kc tot : Int32} {t : PH} {g : Int32} (hp : 0 ≤ pn) : PM l D YX3_put 1 [.ref 11, .int g] (XH N im ps pn T ta tb tw tp tn ka kf ks kc mo op tot t) 0 0 (some (.int (b2i (decide (pn < 60))))) (XH N im (if pn < 60 then upd ps pn.toNatClampNeg g else ps) (if pn < 60 then pn + 1 else pn) T ta tb tw tp tn ka kf ks kc mo op tot t) := by
  refine pm_of2 (n0 := (t.length + 28)) kb_YX3_put rfl [some (.ref 11), some (.int g)] (fun _ => rfl) (fun _ => (Nat.le_of_ble_eq_true rfl)) ?_
  refine w_aload_n dX3_put_0 rfl ?_
  refine w_get dX3_put_1 f_X3_15 rfl rfl ?_
  refine w_bipush (v := 60) dX3_put_4 (by decide) ?_
  refine w_icmp_lt (tgt := 11) dX3_put_6 (by decide) (fun c_6 => ?_) (fun c_6 => ?_)
  · skip
    refine w_aload_n dX3_put_11 rfl ?_
    refine w_get dX3_put_12 f_X3_9 rfl rfl ?_
    refine w_aload_n dX3_put_15 rfl ?_
    refine w_get dX3_put_16 f_X3_15 rfl rfl ?_
    refine w_iload_n dX3_put_19 rfl ?_
    refine x_aP0 dX3_put_20 (put_in hp c_6) ?_
    refine w_aload_n dX3_put_21 rfl ?_
    refine w_dup dX3_put_22 rfl ?_
    refine w_get dX3_put_23 f_X3_15 rfl rfl ?_
    refine w_iconst (v := 1) dX3_put_26 (by decide) ?_
    refine w_iadd dX3_put_27 ?_
    refine x_pP1 dX3_put_28 f_X3_15 ?_
    refine w_iconst (v := 1) dX3_put_31 (by decide) ?_
    exact w_zretb dX3_put_32 rfl (by simp [b2i, *]) (by simp only [if_pos, if_neg, not_false_eq_true, *]) rfl (Nat.le_refl 0)
  · skip
    refine w_iconst (v := 0) dX3_put_9 (by decide) ?_
    exact w_zretb dX3_put_10 rfl (by simp [b2i, *]) (by simp only [if_pos, if_neg, not_false_eq_true, *]) rfl (Nat.le_refl 0)

theorem out3 {a : Int32} (h0 : ¬ a = 0) (h1 : ¬ a = 1) (h2 : ¬ a = 2) : a.toInt < 0 ∨ 2 < a.toInt := by
  have e0 : ¬ a.toInt = 0 := fun h => h0 (Int32.toInt_inj.mp h)
  have e1 : ¬ a.toInt = 1 := fun h => h1 (Int32.toInt_inj.mp h)
  have e2 : ¬ a.toInt = 2 := fun h => h2 (Int32.toInt_inj.mp h)
  omega
set_option maxRecDepth 100000 in
set_option maxHeartbeats 4000000 in
theorem pm_X3_stepOver {l : Launch} {D : va_G} {h : PH} {a g : Int32} : PM l D YX3_stepOver 2 [.int a, .int g] h 0 0 (some (.int (sStep a g))) h := by
  refine pm_of2 (n0 := h.length) kb_YX3_stepOver rfl [some (.int a), some (.int g), none] (fun _ => rfl) (fun _ => (Nat.le_of_ble_eq_true rfl)) ?_
  refine w_iload_n dX3_stepOver_0 rfl ?_
  refine w_bipush (v := 65) dX3_stepOver_1 (by decide) ?_
  refine w_bipush (v := 72) dX3_stepOver_3 (by decide) ?_
  refine w_callSr dX3_stepOver_5 k_X3_27 (pm_X6_isWithin) rfl rfl (Nat.le_of_ble_eq_true rfl) (Nat.le_of_ble_eq_true rfl) (Nat.le_of_ble_eq_true rfl) (rc00 rfl (Nat.le_refl 0)) ?_
  refine w_istore_2 dX3_stepOver_8 (Nat.le_of_ble_eq_true rfl) rfl ?_
  by_cases a0 : a = 0
  · subst a0
    refine w_iload_n dX3_stepOver_9 rfl ?_
    refine w_tableIn (tgt := 36) dX3_stepOver_10 (by decide) (by decide) rfl (by decide) ?_
    refine w_iload_n dX3_stepOver_36 rfl ?_
    refine w_bipush (v := 46) dX3_stepOver_37 (by decide) ?_
    refine w_ticmp_ne (a := ?a39_1) (b := ?b39_1) (pJ := 56) (tgt := 46) dX3_stepOver_39 (by decide) (fun c_39 k => ?hA39_1) (fun c_39 k => ?hB39_1) ?hk39_1
    case hA39_1 =>
      refine w_iload_n dX3_stepOver_46 rfl ?_
      refine w_ztif_eq (a := ?a47_2) (b := ?b47_2) (pJ := 56) (tgt := 54) dX3_stepOver_47 (by decide) (fun c_47 k => ?hA47_2) (fun c_47 k => ?hB47_2) ?hk47_2
      case hA47_2 =>
        refine w_bipush (v := (-6)) dX3_stepOver_54 (by decide) ?_
        exact k
      case hB47_2 =>
        refine w_iconst (v := 1) dX3_stepOver_50 (by decide) ?_
        refine w_goto (tgt := 56) dX3_stepOver_51 (by decide) ?_
        exact k
      exact k
    case hB39_1 =>
      refine w_iconst (v := 0) dX3_stepOver_42 (by decide) ?_
      refine w_goto (tgt := 56) dX3_stepOver_43 (by decide) ?_
      exact k
    exact w_iret dX3_stepOver_56 rfl (by simp only [sStep]; simp [*, cond_eq_ite]) rfl rfl (Nat.le_refl 0)
  by_cases a1 : a = 1
  · subst a1
    refine w_iload_n dX3_stepOver_9 rfl ?_
    refine w_tableIn (tgt := 57) dX3_stepOver_10 (by decide) (by decide) rfl (by decide) ?_
    refine w_iload_n dX3_stepOver_57 rfl ?_
    refine w_bipush (v := 62) dX3_stepOver_58 (by decide) ?_
    refine w_icmp_ne (tgt := 65) dX3_stepOver_60 (by decide) (fun c_60 => ?_) (fun c_60 => ?_)
    · skip
      refine w_iload_n dX3_stepOver_65 rfl ?_
      refine w_bipush (v := 61) dX3_stepOver_66 (by decide) ?_
      refine w_icmp_ne (tgt := 73) dX3_stepOver_68 (by decide) (fun c_68 => ?_) (fun c_68 => ?_)
      · skip
        refine w_iload_n dX3_stepOver_73 rfl ?_
        refine w_bipush (v := 48) dX3_stepOver_74 (by decide) ?_
        refine w_bipush (v := 53) dX3_stepOver_76 (by decide) ?_
        refine w_callSr dX3_stepOver_78 k_X3_27 (pm_X6_isWithin) rfl rfl (Nat.le_of_ble_eq_true rfl) (Nat.le_of_ble_eq_true rfl) (Nat.le_of_ble_eq_true rfl) (rc00 rfl (Nat.le_refl 0)) ?_
        refine w_ztif_eq (a := ?a81_3) (b := ?b81_3) (pJ := 90) (tgt := 88) dX3_stepOver_81 (by decide) (fun c_81 k => ?hA81_3) (fun c_81 k => ?hB81_3) ?hk81_3
        case hA81_3 =>
          refine w_bipush (v := (-6)) dX3_stepOver_88 (by decide) ?_
          exact k
        case hB81_3 =>
          refine w_iconst (v := 0) dX3_stepOver_84 (by decide) ?_
          refine w_goto (tgt := 90) dX3_stepOver_85 (by decide) ?_
          exact k
        exact w_iret dX3_stepOver_90 rfl (by simp only [sStep]; simp [*, cond_eq_ite]) rfl rfl (Nat.le_refl 0)
      · skip
        refine w_iconst (v := 2) dX3_stepOver_71 (by decide) ?_
        exact w_iret dX3_stepOver_72 rfl (by simp only [sStep]; simp [*, cond_eq_ite]) rfl rfl (Nat.le_refl 0)
    · skip
      refine w_iconst (v := 3) dX3_stepOver_63 (by decide) ?_
      exact w_iret dX3_stepOver_64 rfl (by simp only [sStep]; simp [*, cond_eq_ite]) rfl rfl (Nat.le_refl 0)
  by_cases a2 : a = 2
  · subst a2
    refine w_iload_n dX3_stepOver_9 rfl ?_
    refine w_tableIn (tgt := 91) dX3_stepOver_10 (by decide) (by decide) rfl (by decide) ?_
    refine w_iload_n dX3_stepOver_91 rfl ?_
    refine w_bipush (v := 49) dX3_stepOver_92 (by decide) ?_
    refine w_bipush (v := 57) dX3_stepOver_94 (by decide) ?_
    refine w_callSr dX3_stepOver_96 k_X3_27 (pm_X6_isWithin) rfl rfl (Nat.le_of_ble_eq_true rfl) (Nat.le_of_ble_eq_true rfl) (Nat.le_of_ble_eq_true rfl) (rc00 rfl (Nat.le_refl 0)) ?_
    refine w_ztif_eq (a := ?a99_4) (b := ?b99_4) (pJ := 108) (tgt := 106) dX3_stepOver_99 (by decide) (fun c_99 k => ?hA99_4) (fun c_99 k => ?hB99_4) ?hk99_4
    case hA99_4 =>
      refine w_bipush (v := (-6)) dX3_stepOver_106 (by decide) ?_
      exact k
    case hB99_4 =>
      refine w_iconst (v := 3) dX3_stepOver_102 (by decide) ?_
      refine w_goto (tgt := 108) dX3_stepOver_103 (by decide) ?_
      exact k
    exact w_iret dX3_stepOver_108 rfl (by simp only [sStep]; simp [*, cond_eq_ite]) rfl rfl (Nat.le_refl 0)
  refine w_iload_n dX3_stepOver_9 rfl ?_
  refine w_tableOut (tgt := 109) dX3_stepOver_10 (out3 a0 a1 a2) (by decide) ?_
  refine w_iload_n dX3_stepOver_109 rfl ?_
  refine w_ztif_eq (a := ?a110_5) (b := ?b110_5) (pJ := 119) (tgt := 117) dX3_stepOver_110 (by decide) (fun c_110 k => ?hA110_5) (fun c_110 k => ?hB110_5) ?hk110_5
  case hA110_5 =>
    refine w_bipush (v := (-6)) dX3_stepOver_117 (by decide) ?_
    exact k
  case hB110_5 =>
    refine w_iconst (v := 0) dX3_stepOver_113 (by decide) ?_
    refine w_goto (tgt := 119) dX3_stepOver_114 (by decide) ?_
    exact k
  exact w_iret dX3_stepOver_119 rfl (by simp only [sStep]; simp [*, cond_eq_ite]) rfl rfl (Nat.le_refl 0)

set_option maxRecDepth 100000 in
set_option maxHeartbeats 4000000 in
theorem pm_X3_faultPlace {l : Launch} {D : va_G} {N T : WS} {im : Nat → Option Nat} {ps mo op : Nat → Int32} {pn ta tb tw tp tn ka kf ks kc tot : Int32} {t : PH} {c : Nat} (hc : c ≤ 60) (hpn : pn = nI c) : PM l D YX3_faultPlace 3 [.ref 11] (XH N im ps pn T ta tb tw tp tn ka kf ks kc mo op tot t) 0 0 (some (.int (fgo ps pn c 0 0))) (XH N im ps pn T ta tb tw tp tn ka kf ks kc mo op tot t) := by
  refine pm_of2 (n0 := (t.length + 28)) kb_YX3_faultPlace rfl [some (.ref 11), none, none] (fun _ => rfl) (fun _ => (Nat.le_of_ble_eq_true rfl)) ?_
  have hp : pn ≤ 60 := by rw [hpn]; exact nI_le hc (by decide)
  have loop : ∀ (k i : Nat), i + k = c → ∀ a : Int32, fgo ps pn k i a = fgo ps pn c 0 0 → Wp l D YX3_faultPlace (pRm 3 0 0) (t.length + 28) (fun _ _ _ => True) (mE D (t.length + 28) 0 0 (some (.int (fgo ps pn c 0 0))) (XH N im ps pn T ta tb tw tp tn ka kf ks kc mo op tot t)) 4 [some (.ref 11), some (.int a), some (.int (nI i))] [] (XH N im ps pn T ta tb tw tp tn ka kf ks kc mo op tot t) 0 := by
    intro k
    induction k with
    | zero =>
      intro i hi a ha
      have hi : i = c := by omega
      subst hi
      refine w_iload_n dX3_faultPlace_4 rfl ?_
      refine w_aload_n dX3_faultPlace_5 rfl ?_
      refine w_get dX3_faultPlace_6 f_X3_15 rfl rfl ?_
      refine w_icmp_ge_t (tgt := 36) dX3_faultPlace_9 (by decide) (by rw [hpn]; exact Int32.le_refl _) ?_
      refine w_iload_n dX3_faultPlace_36 rfl ?_
      refine w_tif_ne (a := ?a37_1) (b := ?b37_1) (pJ := 49) (tgt := 45) dX3_faultPlace_37 (by decide) (fun c_37 k => ?hA37_1) (fun c_37 k => ?hB37_1) ?hk37_1
      case hA37_1 =>
        refine w_aload_n dX3_faultPlace_45 rfl ?_
        refine w_get dX3_faultPlace_46 f_X3_15 rfl rfl ?_
        exact k
      case hB37_1 =>
        refine w_bipush (v := (-6)) dX3_faultPlace_40 (by decide) ?_
        refine w_goto (tgt := 49) dX3_faultPlace_42 (by decide) ?_
        exact k
      exact w_iret dX3_faultPlace_49 rfl (by rw [← ha, fgo]; simp [hpn]) rfl rfl (Nat.le_refl 0)
    | succ k ih =>
      intro i hi a ha
      rw [fgo] at ha
      refine w_iload_n dX3_faultPlace_4 rfl ?_
      refine w_aload_n dX3_faultPlace_5 rfl ?_
      refine w_get dX3_faultPlace_6 f_X3_15 rfl rfl ?_
      refine w_icmp_ge_f dX3_faultPlace_9 ⟨36, by decide⟩ (by rw [hpn]; exact nI_ge (by omega) (by omega)) ?_
      refine w_iload_n dX3_faultPlace_12 rfl ?_
      refine w_aload_n dX3_faultPlace_13 rfl ?_
      refine w_iload_n dX3_faultPlace_14 rfl ?_
      refine w_callVr dX3_faultPlace_15 k_X3_19 (pm_X3_signAt hp) rfl rfl rfl rfl (Nat.le_of_ble_eq_true rfl) (Nat.le_of_ble_eq_true rfl) (Nat.le_of_ble_eq_true rfl) (rc00 rfl (Nat.le_refl 0)) ?_
      refine w_callSr dX3_faultPlace_18 k_X3_23 (pm_X3_stepOver) rfl rfl (Nat.le_of_ble_eq_true rfl) (Nat.le_of_ble_eq_true rfl) (Nat.le_of_ble_eq_true rfl) (rc00 rfl (Nat.le_refl 0)) ?_
      refine w_istore_1 dX3_faultPlace_21 (Nat.le_of_ble_eq_true rfl) rfl ?_
      refine w_iload_n dX3_faultPlace_22 rfl ?_
      refine w_bipush (v := (-6)) dX3_faultPlace_23 (by decide) ?_
      refine w_icmp_ne (tgt := 30) dX3_faultPlace_25 (by decide) (fun c_25 => ?_) (fun c_25 => ?_)
      · skip
        refine w_iinc_2 (v := 1) dX3_faultPlace_30 (by decide) (Nat.le_of_ble_eq_true rfl) rfl ?_
        refine w_goto (tgt := 4) dX3_faultPlace_33 (by decide) ?_
        rw [if_neg c_25] at ha
        exact w_loc_2 (nI_1 i) (ih (i + 1) (by omega) _ ha)
      · skip
        refine w_iload_n dX3_faultPlace_28 rfl ?_
        exact w_iret dX3_faultPlace_29 rfl (by rw [if_pos c_25] at ha; exact ha) rfl rfl (Nat.le_refl 0)
  refine w_iconst (v := 0) dX3_faultPlace_0 (by decide) ?_
  refine w_istore_1 dX3_faultPlace_1 (Nat.le_of_ble_eq_true rfl) rfl ?_
  refine w_iconst (v := 0) dX3_faultPlace_2 (by decide) ?_
  refine w_istore_2 dX3_faultPlace_3 (Nat.le_of_ble_eq_true rfl) rfl ?_
  exact loop c 0 (by omega) 0 rfl

def rdL (ps : Nat → Int32) (pn p : Int32) : Int32 := if sSgn ps pn p = 46 then 1 else if sSgn ps pn (p + 1) = 62 then 3 else if sSgn ps pn (p + 1) = 61 then 4 else 2
def rdA (ps : Nat → Int32) (pn p : Int32) : Int32 := if sSgn ps pn p = 46 then 0 else if sSgn ps pn (p + 1) = 62 then 1 else if sSgn ps pn (p + 1) = 61 then 2 else 3
def rdF (ps : Nat → Int32) (pn p kf : Int32) : Int32 := if sSgn ps pn p = 46 then kf else sSgn ps pn p - 65
def rdS (ps : Nat → Int32) (pn p ks : Int32) : Int32 := if sSgn ps pn p = 46 then ks else if sSgn ps pn (p + 1) = 62 then sSgn ps pn (p + 2) - 65 else if sSgn ps pn (p + 1) = 61 then sSgn ps pn (p + 3) - 65 else sSgn ps pn (p + 1) - 48
def rdC (ps : Nat → Int32) (pn p kc : Int32) : Int32 := if sSgn ps pn p = 46 then kc else if sSgn ps pn (p + 1) = 62 then kc else if sSgn ps pn (p + 1) = 61 then sSgn ps pn (p + 2) - 48 else kc
set_option maxRecDepth 100000 in
set_option maxHeartbeats 4000000 in
theorem pm_X0_readFrom {l : Launch} {D : va_G} {N T : WS} {im : Nat → Option Nat} {ps mo op : Nat → Int32} {pn ta tb tw tp tn ka kf ks kc tot : Int32} {t : PH} {p : Int32} (hp : pn ≤ 60) : PM l D YX0_readFrom 2 [.ref 23, .ref 11, .int p] (XH N im ps pn T ta tb tw tp tn ka kf ks kc mo op tot t) 0 0 (some (.int (rdL ps pn p))) (XH N im ps pn T ta tb tw tp tn (rdA ps pn p) (rdF ps pn p kf) (rdS ps pn p ks) (rdC ps pn p kc) mo op tot t) := by
  refine pm_of2 (n0 := (t.length + 28)) kb_YX0_readFrom rfl [some (.ref 23), some (.ref 11), some (.int p), none, none] (fun _ => rfl) (fun _ => (Nat.le_of_ble_eq_true rfl)) ?_
  refine w_aload_n dX0_readFrom_0 rfl ?_
  refine w_iload_n dX0_readFrom_1 rfl ?_
  refine w_callVr dX0_readFrom_2 k_X0_24 (pm_X3_signAt hp) rfl rfl rfl rfl (Nat.le_of_ble_eq_true rfl) (Nat.le_of_ble_eq_true rfl) (Nat.le_of_ble_eq_true rfl) (rc00 rfl (Nat.le_refl 0)) ?_
  refine w_istore_3 dX0_readFrom_5 (Nat.le_of_ble_eq_true rfl) rfl ?_
  refine w_iload_n dX0_readFrom_6 rfl ?_
  refine w_bipush (v := 46) dX0_readFrom_7 (by decide) ?_
  refine w_icmp_ne (tgt := 19) dX0_readFrom_9 (by decide) (fun c_9 => ?_) (fun c_9 => ?_)
  · skip
    refine w_aload_n dX0_readFrom_19 rfl ?_
    refine w_iload_n dX0_readFrom_20 rfl ?_
    refine w_bipush (v := 65) dX0_readFrom_21 (by decide) ?_
    refine w_isub dX0_readFrom_23 ?_
    refine x_pA1 dX0_readFrom_24 f_X0_15 ?_
    refine w_aload_n dX0_readFrom_27 rfl ?_
    refine w_iload_n dX0_readFrom_28 rfl ?_
    refine w_iconst (v := 1) dX0_readFrom_29 (by decide) ?_
    refine w_iadd dX0_readFrom_30 ?_
    refine w_callVr dX0_readFrom_31 k_X0_24 (pm_X3_signAt hp) rfl rfl rfl rfl (Nat.le_of_ble_eq_true rfl) (Nat.le_of_ble_eq_true rfl) (Nat.le_of_ble_eq_true rfl) (rc00 rfl (Nat.le_refl 0)) ?_
    refine w_istore_4 dX0_readFrom_34 (Nat.le_of_ble_eq_true rfl) rfl ?_
    refine w_iload dX0_readFrom_36 rfl ?_
    refine w_bipush (v := 62) dX0_readFrom_38 (by decide) ?_
    refine w_icmp_ne (tgt := 64) dX0_readFrom_40 (by decide) (fun c_40 => ?_) (fun c_40 => ?_)
    · skip
      refine w_iload dX0_readFrom_64 rfl ?_
      refine w_bipush (v := 61) dX0_readFrom_66 (by decide) ?_
      refine w_icmp_ne (tgt := 106) dX0_readFrom_68 (by decide) (fun c_68 => ?_) (fun c_68 => ?_)
      · skip
        refine w_aload_n dX0_readFrom_106 rfl ?_
        refine w_iconst (v := 3) dX0_readFrom_107 (by decide) ?_
        refine x_pA0 dX0_readFrom_108 f_X0_11 ?_
        refine w_aload_n dX0_readFrom_111 rfl ?_
        refine w_iload dX0_readFrom_112 rfl ?_
        refine w_bipush (v := 48) dX0_readFrom_114 (by decide) ?_
        refine w_isub dX0_readFrom_116 ?_
        refine x_pA2 dX0_readFrom_117 f_X0_18 ?_
        refine w_iconst (v := 2) dX0_readFrom_120 (by decide) ?_
        exact w_iret dX0_readFrom_121 rfl (by simp only [rdL, rdA, rdF, rdS, rdC, if_pos, if_neg, not_false_eq_true, *]; try rfl) (by simp only [rdL, rdA, rdF, rdS, rdC, if_pos, if_neg, not_false_eq_true, *]; try rfl) rfl (Nat.le_refl 0)
      · skip
        refine w_aload_n dX0_readFrom_71 rfl ?_
        refine w_iconst (v := 2) dX0_readFrom_72 (by decide) ?_
        refine x_pA0 dX0_readFrom_73 f_X0_11 ?_
        refine w_aload_n dX0_readFrom_76 rfl ?_
        refine w_aload_n dX0_readFrom_77 rfl ?_
        refine w_iload_n dX0_readFrom_78 rfl ?_
        refine w_iconst (v := 2) dX0_readFrom_79 (by decide) ?_
        refine w_iadd dX0_readFrom_80 ?_
        refine w_callVr dX0_readFrom_81 k_X0_24 (pm_X3_signAt hp) rfl rfl rfl rfl (Nat.le_of_ble_eq_true rfl) (Nat.le_of_ble_eq_true rfl) (Nat.le_of_ble_eq_true rfl) (rc00 rfl (Nat.le_refl 0)) ?_
        refine w_bipush (v := 48) dX0_readFrom_84 (by decide) ?_
        refine w_isub dX0_readFrom_86 ?_
        refine x_pA3 dX0_readFrom_87 f_X0_21 ?_
        refine w_aload_n dX0_readFrom_90 rfl ?_
        refine w_aload_n dX0_readFrom_91 rfl ?_
        refine w_iload_n dX0_readFrom_92 rfl ?_
        refine w_iconst (v := 3) dX0_readFrom_93 (by decide) ?_
        refine w_iadd dX0_readFrom_94 ?_
        refine w_callVr dX0_readFrom_95 k_X0_24 (pm_X3_signAt hp) rfl rfl rfl rfl (Nat.le_of_ble_eq_true rfl) (Nat.le_of_ble_eq_true rfl) (Nat.le_of_ble_eq_true rfl) (rc00 rfl (Nat.le_refl 0)) ?_
        refine w_bipush (v := 65) dX0_readFrom_98 (by decide) ?_
        refine w_isub dX0_readFrom_100 ?_
        refine x_pA2 dX0_readFrom_101 f_X0_18 ?_
        refine w_iconst (v := 4) dX0_readFrom_104 (by decide) ?_
        exact w_iret dX0_readFrom_105 rfl (by simp only [rdL, rdA, rdF, rdS, rdC, if_pos, if_neg, not_false_eq_true, *]; try rfl) (by simp only [rdL, rdA, rdF, rdS, rdC, if_pos, if_neg, not_false_eq_true, *]; try rfl) rfl (Nat.le_refl 0)
    · skip
      refine w_aload_n dX0_readFrom_43 rfl ?_
      refine w_iconst (v := 1) dX0_readFrom_44 (by decide) ?_
      refine x_pA0 dX0_readFrom_45 f_X0_11 ?_
      refine w_aload_n dX0_readFrom_48 rfl ?_
      refine w_aload_n dX0_readFrom_49 rfl ?_
      refine w_iload_n dX0_readFrom_50 rfl ?_
      refine w_iconst (v := 2) dX0_readFrom_51 (by decide) ?_
      refine w_iadd dX0_readFrom_52 ?_
      refine w_callVr dX0_readFrom_53 k_X0_24 (pm_X3_signAt hp) rfl rfl rfl rfl (Nat.le_of_ble_eq_true rfl) (Nat.le_of_ble_eq_true rfl) (Nat.le_of_ble_eq_true rfl) (rc00 rfl (Nat.le_refl 0)) ?_
      refine w_bipush (v := 65) dX0_readFrom_56 (by decide) ?_
      refine w_isub dX0_readFrom_58 ?_
      refine x_pA2 dX0_readFrom_59 f_X0_18 ?_
      refine w_iconst (v := 3) dX0_readFrom_62 (by decide) ?_
      exact w_iret dX0_readFrom_63 rfl (by simp only [rdL, rdA, rdF, rdS, rdC, if_pos, if_neg, not_false_eq_true, *]; try rfl) (by simp only [rdL, rdA, rdF, rdS, rdC, if_pos, if_neg, not_false_eq_true, *]; try rfl) rfl (Nat.le_refl 0)
  · skip
    refine w_aload_n dX0_readFrom_12 rfl ?_
    refine w_iconst (v := 0) dX0_readFrom_13 (by decide) ?_
    refine x_pA0 dX0_readFrom_14 f_X0_11 ?_
    refine w_iconst (v := 1) dX0_readFrom_17 (by decide) ?_
    exact w_iret dX0_readFrom_18 rfl (by simp only [rdL, rdA, rdF, rdS, rdC, if_pos, if_neg, not_false_eq_true, *]; try rfl) (by simp only [rdL, rdA, rdF, rdS, rdC, if_pos, if_neg, not_false_eq_true, *]; try rfl) rfl (Nat.le_refl 0)

def jrem (x y : Int32) : Int32 := x - x / y * y
def dwA (x : Int32) : Int32 := if jrem x 8 = 0 then 0 else if jrem x 8 = 1 then 1 else if 3 < jrem x 8 then 3 else 2
def dwF (x : Int32) : Int32 := jrem (x / 8) 8
def dwS (x : Int32) : Int32 := if jrem x 8 = 0 then jrem (x / 64) 8 else if jrem x 8 = 1 then jrem (x / 64) 8 else if 3 < jrem x 8 then jrem (x / 64) 6 else jrem (x / 64) 8
def dwC (x kc : Int32) : Int32 := if jrem x 8 = 0 then kc else if jrem x 8 = 1 then kc else if 3 < jrem x 8 then kc else 1 + jrem (x / 512) 9
set_option maxRecDepth 100000 in
set_option maxHeartbeats 4000000 in
theorem pm_X0_drawFrom {l : Launch} {D : va_G} {N T : WS} {im : Nat → Option Nat} {ps mo op : Nat → Int32} {pn ta tb tw tp tn ka kf ks kc tot : Int32} {t : PH} {x : Int32} : PM l D YX0_drawFrom 1 [.ref 23, .int x] (XH N im ps pn T ta tb tw tp tn ka kf ks kc mo op tot t) 0 0 none (XH N im ps pn T ta tb tw tp tn (dwA x) (dwF x) (dwS x) (dwC x kc) mo op tot t) := by
  refine pm_of2 (n0 := (t.length + 28)) kb_YX0_drawFrom rfl [some (.ref 23), some (.int x), none] (fun _ => rfl) (fun _ => (Nat.le_of_ble_eq_true rfl)) ?_
  refine w_iload_n dX0_drawFrom_0 rfl ?_
  refine w_bipush (v := 8) dX0_drawFrom_1 (by decide) ?_
  refine w_irem dX0_drawFrom_3 (by decide) ?_
  refine w_istore_2 dX0_drawFrom_4 (Nat.le_of_ble_eq_true rfl) rfl ?_
  refine w_leq (L2 := [some (.ref 23), some (.int x), some (.int (jrem x 8))]) rfl ?_
  refine w_aload_n dX0_drawFrom_5 rfl ?_
  refine w_iload_n dX0_drawFrom_6 rfl ?_
  refine w_bipush (v := 8) dX0_drawFrom_7 (by decide) ?_
  refine w_idiv dX0_drawFrom_9 (by decide) ?_
  refine w_bipush (v := 8) dX0_drawFrom_10 (by decide) ?_
  refine w_irem dX0_drawFrom_12 (by decide) ?_
  refine x_pA1 dX0_drawFrom_13 f_X0_15 ?_
  refine w_aload_n dX0_drawFrom_16 rfl ?_
  refine w_iload_n dX0_drawFrom_17 rfl ?_
  refine w_bipush (v := 64) dX0_drawFrom_18 (by decide) ?_
  refine w_idiv dX0_drawFrom_20 (by decide) ?_
  refine w_bipush (v := 8) dX0_drawFrom_21 (by decide) ?_
  refine w_irem dX0_drawFrom_23 (by decide) ?_
  refine x_pA2 dX0_drawFrom_24 f_X0_18 ?_
  refine w_iload_n dX0_drawFrom_27 rfl ?_
  refine w_if_ne (tgt := 39) dX0_drawFrom_28 (by decide) (fun c_28 => ?_) (fun c_28 => ?_)
  · skip
    refine w_iload_n dX0_drawFrom_39 rfl ?_
    refine w_iconst (v := 1) dX0_drawFrom_40 (by decide) ?_
    refine w_icmp_ne (tgt := 52) dX0_drawFrom_41 (by decide) (fun c_41 => ?_) (fun c_41 => ?_)
    · skip
      refine w_iload_n dX0_drawFrom_52 rfl ?_
      refine w_iconst (v := 3) dX0_drawFrom_53 (by decide) ?_
      refine w_icmp_gt (tgt := 79) dX0_drawFrom_54 (by decide) (fun c_54 => ?_) (fun c_54 => ?_)
      · skip
        refine w_aload_n dX0_drawFrom_79 rfl ?_
        refine w_iconst (v := 3) dX0_drawFrom_80 (by decide) ?_
        refine x_pA0 dX0_drawFrom_81 f_X0_11 ?_
        refine w_aload_n dX0_drawFrom_84 rfl ?_
        refine w_iload_n dX0_drawFrom_85 rfl ?_
        refine w_bipush (v := 64) dX0_drawFrom_86 (by decide) ?_
        refine w_idiv dX0_drawFrom_88 (by decide) ?_
        refine w_bipush (v := 6) dX0_drawFrom_89 (by decide) ?_
        refine w_irem dX0_drawFrom_91 (by decide) ?_
        refine x_pA2 dX0_drawFrom_92 f_X0_18 ?_
        exact w_vret dX0_drawFrom_95 rfl (by simp only [dwA, dwF, dwS, dwC, if_pos, if_neg, not_false_eq_true, *]; try rfl) rfl (Nat.le_refl 0)
      · skip
        refine w_aload_n dX0_drawFrom_57 rfl ?_
        refine w_iconst (v := 2) dX0_drawFrom_58 (by decide) ?_
        refine x_pA0 dX0_drawFrom_59 f_X0_11 ?_
        refine w_aload_n dX0_drawFrom_62 rfl ?_
        refine w_iconst (v := 1) dX0_drawFrom_63 (by decide) ?_
        refine w_iload_n dX0_drawFrom_64 rfl ?_
        refine w_sipush (v := 512) dX0_drawFrom_65 (by decide) ?_
        refine w_idiv dX0_drawFrom_68 (by decide) ?_
        refine w_bipush (v := 9) dX0_drawFrom_69 (by decide) ?_
        refine w_irem dX0_drawFrom_71 (by decide) ?_
        refine w_iadd dX0_drawFrom_72 ?_
        refine x_pA3 dX0_drawFrom_73 f_X0_21 ?_
        refine w_goto (tgt := 95) dX0_drawFrom_76 (by decide) ?_
        exact w_vret dX0_drawFrom_95 rfl (by simp only [dwA, dwF, dwS, dwC, if_pos, if_neg, not_false_eq_true, *]; try rfl) rfl (Nat.le_refl 0)
    · skip
      refine w_aload_n dX0_drawFrom_44 rfl ?_
      refine w_iconst (v := 1) dX0_drawFrom_45 (by decide) ?_
      refine x_pA0 dX0_drawFrom_46 f_X0_11 ?_
      refine w_goto (tgt := 95) dX0_drawFrom_49 (by decide) ?_
      exact w_vret dX0_drawFrom_95 rfl (by simp only [dwA, dwF, dwS, dwC, if_pos, if_neg, not_false_eq_true, *]; try rfl) rfl (Nat.le_refl 0)
  · skip
    refine w_aload_n dX0_drawFrom_31 rfl ?_
    refine w_iconst (v := 0) dX0_drawFrom_32 (by decide) ?_
    refine x_pA0 dX0_drawFrom_33 f_X0_11 ?_
    refine w_goto (tgt := 95) dX0_drawFrom_36 (by decide) ?_
    exact w_vret dX0_drawFrom_95 rfl (by simp only [dwA, dwF, dwS, dwC, if_pos, if_neg, not_false_eq_true, *]; try rfl) rfl (Nat.le_refl 0)

