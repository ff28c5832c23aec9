def XH (N : WS) (im : Nat → Option Nat) (ps : Nat → Int32) (pn : Int32) (T : WS) (ta tb tw tp tn ka kf ks kc : Int32) (mo op : Nat → Int32) (tot : Int32) (t : PH) : PH :=
  .inr (6, [.ref 1, .ref 10, .ref 11, .ref 13, .ref 24, .ref 26]) :: (wc 1 N ++ (qa 2 im :: .inr (3, [.ref 12, .int pn]) :: ia 60 ps :: .inr (4, [.ref 14, .ref 23, .int ta, .int tb, .int tw, .int tp, .int tn]) :: (wc 14 T ++ (.inr (0, [.int ka, .int kf, .int ks, .int kc]) :: .inr (2, [.ref 25]) :: ia 576 mo :: .inr (1, [.ref 27, .int tot]) :: ia 8 op :: t))))
section PXH
variable {l : Launch} {D : va_G} {Y : PMth} {R : Room} {n0 : Nat} {X : State → Array Value → Nat → Prop} {E : List Frame → Array Value → State → Nat → State → Prop} {pc nx : Nat} {L : List (Option Value)} {st st0 : List Value} {n : Nat} {N T : WS} {im : Nat → Option Nat} {ps mo op : Nat → Int32} {pn ta tb tw tp tn ka kf ks kc tot : Int32} {t : PH}
theorem xlen : (XH N im ps pn T ta tb tw tp tn ka kf ks kc mo op tot t).length = t.length + 28 := rfl
theorem xb1 : 1 + 8 < (XH N im ps pn T ta tb tw tp tn ka kf ks kc mo op tot t).length := by show 9 < t.length + 28; omega
theorem xb14 : 14 + 8 < (XH N im ps pn T ta tb tw tp tn ka kf ks kc mo op tot t).length := by show 22 < t.length + 28; omega
theorem xw1 {S : WS} : wput (XH N im ps pn T ta tb tw tp tn ka kf ks kc mo op tot t) 1 S = (XH S im ps pn T ta tb tw tp tn ka kf ks kc mo op tot t) := rfl
theorem xw14 {S : WS} : wput (XH N im ps pn T ta tb tw tp tn ka kf ks kc mo op tot t) 14 S = (XH N im ps pn S ta tb tw tp tn ka kf ks kc mo op tot t) := rfl
theorem x_pN0 {v : Int32} {idx : Nat} (hd : dc Y.2.1 pc (.putfield idx) 3 nx) (hf : FLp Y.1.cls idx 5 0 false .int) (kk : Wp l D Y R n0 X E nx L st (XH (slv N v) im ps pn T ta tb tw tp tn ka kf ks kc mo op tot t) n) : Wp l D Y R n0 X E pc L (.int v :: .ref 1 :: st) (XH N im ps pn T ta tb tw tp tn ka kf ks kc mo op tot t) n :=
  w_put hd hf rfl (Nat.le_of_ble_eq_true rfl) (fun _ => rfl) (fun _ => rfl) (w_heq rfl kk)
theorem x_pN1 {v : Int32} {idx : Nat} (hd : dc Y.2.1 pc (.putfield idx) 3 nx) (hf : FLp Y.1.cls idx 5 1 false .int) (kk : Wp l D Y R n0 X E nx L st (XH (syr N v) im ps pn T ta tb tw tp tn ka kf ks kc mo op tot t) n) : Wp l D Y R n0 X E pc L (.int v :: .ref 1 :: st) (XH N im ps pn T ta tb tw tp tn ka kf ks kc mo op tot t) n :=
  w_put hd hf rfl (Nat.le_of_ble_eq_true rfl) (fun _ => rfl) (fun _ => rfl) (w_heq rfl kk)
theorem x_pN2 {v : Int32} {idx : Nat} (hd : dc Y.2.1 pc (.putfield idx) 3 nx) (hf : FLp Y.1.cls idx 5 2 false .int) (kk : Wp l D Y R n0 X E nx L st (XH (ssg N v) im ps pn T ta tb tw tp tn ka kf ks kc mo op tot t) n) : Wp l D Y R n0 X E pc L (.int v :: .ref 1 :: st) (XH N im ps pn T ta tb tw tp tn ka kf ks kc mo op tot t) n :=
  w_put hd hf rfl (Nat.le_of_ble_eq_true rfl) (fun _ => rfl) (fun _ => rfl) (w_heq rfl kk)
theorem x_pN3 {v : Int32} {idx : Nat} (hd : dc Y.2.1 pc (.putfield idx) 3 nx) (hf : FLp Y.1.cls idx 5 3 false .int) (kk : Wp l D Y R n0 X E nx L st (XH (sop N v) im ps pn T ta tb tw tp tn ka kf ks kc mo op tot t) n) : Wp l D Y R n0 X E pc L (.int v :: .ref 1 :: st) (XH N im ps pn T ta tb tw tp tn ka kf ks kc mo op tot t) n :=
  w_put hd hf rfl (Nat.le_of_ble_eq_true rfl) (fun _ => rfl) (fun _ => rfl) (w_heq rfl kk)
theorem x_aN1 {i x : Int32} (hd : dc Y.2.1 pc .iastore 1 nx) (hi : vp_in i 8) (kk : Wp l D Y R n0 X E nx L st (XH (smk N (upd (wmk N) i.toNatClampNeg x)) im ps pn T ta tb tw tp tn ka kf ks kc mo op tot t) n) : Wp l D Y R n0 X E pc L (.int x :: .int i :: .ref 2 :: st) (XH N im ps pn T ta tb tw tp tn ka kf ks kc mo op tot t) n :=
  w_iast hd rfl hi (w_heq rfl kk)
theorem x_aN2 {i x : Int32} (hd : dc Y.2.1 pc .iastore 1 nx) (hi : vp_in i 8) (kk : Wp l D Y R n0 X E nx L st (XH (spu N (upd (wpu N) i.toNatClampNeg x)) im ps pn T ta tb tw tp tn ka kf ks kc mo op tot t) n) : Wp l D Y R n0 X E pc L (.int x :: .int i :: .ref 3 :: st) (XH N im ps pn T ta tb tw tp tn ka kf ks kc mo op tot t) n :=
  w_iast hd rfl hi (w_heq rfl kk)
theorem x_aN3 {i x : Int32} (hd : dc Y.2.1 pc .iastore 1 nx) (hi : vp_in i 8) (kk : Wp l D Y R n0 X E nx L st (XH (swa N (upd (wwa N) i.toNatClampNeg x)) im ps pn T ta tb tw tp tn ka kf ks kc mo op tot t) n) : Wp l D Y R n0 X E pc L (.int x :: .int i :: .ref 4 :: st) (XH N im ps pn T ta tb tw tp tn ka kf ks kc mo op tot t) n :=
  w_iast hd rfl hi (w_heq rfl kk)
theorem x_aN4 {i x : Int32} (hd : dc Y.2.1 pc .iastore 1 nx) (hi : vp_in i 64) (kk : Wp l D Y R n0 X E nx L st (XH (sde N (upd (wde N) i.toNatClampNeg x)) im ps pn T ta tb tw tp tn ka kf ks kc mo op tot t) n) : Wp l D Y R n0 X E pc L (.int x :: .int i :: .ref 5 :: st) (XH N im ps pn T ta tb tw tp tn ka kf ks kc mo op tot t) n :=
  w_iast hd rfl hi (w_heq rfl kk)
theorem x_aN5 {i x : Int32} (hd : dc Y.2.1 pc .iastore 1 nx) (hi : vp_in i 6) (kk : Wp l D Y R n0 X E nx L st (XH (swn N (upd (wwn N) i.toNatClampNeg x)) im ps pn T ta tb tw tp tn ka kf ks kc mo op tot t) n) : Wp l D Y R n0 X E pc L (.int x :: .int i :: .ref 6 :: st) (XH N im ps pn T ta tb tw tp tn ka kf ks kc mo op tot t) n :=
  w_iast hd rfl hi (w_heq rfl kk)
theorem x_aN6 {i x : Int32} (hd : dc Y.2.1 pc .iastore 1 nx) (hi : vp_in i 6) (kk : Wp l D Y R n0 X E nx L st (XH (shi N (upd (whi N) i.toNatClampNeg x)) im ps pn T ta tb tw tp tn ka kf ks kc mo op tot t) n) : Wp l D Y R n0 X E pc L (.int x :: .int i :: .ref 7 :: st) (XH N im ps pn T ta tb tw tp tn ka kf ks kc mo op tot t) n :=
  w_iast hd rfl hi (w_heq rfl kk)
theorem x_aN7 {i x : Int32} (hd : dc Y.2.1 pc .iastore 1 nx) (hi : vp_in i 6) (kk : Wp l D Y R n0 X E nx L st (XH (sco N (upd (wco N) i.toNatClampNeg x)) im ps pn T ta tb tw tp tn ka kf ks kc mo op tot t) n) : Wp l D Y R n0 X E pc L (.int x :: .int i :: .ref 8 :: st) (XH N im ps pn T ta tb tw tp tn ka kf ks kc mo op tot t) n :=
  w_iast hd rfl hi (w_heq rfl kk)
theorem x_aN8 {i x : Int32} (hd : dc Y.2.1 pc .iastore 1 nx) (hi : vp_in i 8) (kk : Wp l D Y R n0 X E nx L st (XH (ssm N (upd (wsm N) i.toNatClampNeg x)) im ps pn T ta tb tw tp tn ka kf ks kc mo op tot t) n) : Wp l D Y R n0 X E pc L (.int x :: .int i :: .ref 9 :: st) (XH N im ps pn T ta tb tw tp tn ka kf ks kc mo op tot t) n :=
  w_iast hd rfl hi (w_heq rfl kk)
theorem x_pT0 {v : Int32} {idx : Nat} (hd : dc Y.2.1 pc (.putfield idx) 3 nx) (hf : FLp Y.1.cls idx 5 0 false .int) (kk : Wp l D Y R n0 X E nx L st (XH N im ps pn (slv T v) ta tb tw tp tn ka kf ks kc mo op tot t) n) : Wp l D Y R n0 X E pc L (.int v :: .ref 14 :: st) (XH N im ps pn T ta tb tw tp tn ka kf ks kc mo op tot t) n :=
  w_put hd hf rfl (Nat.le_of_ble_eq_true rfl) (fun _ => rfl) (fun _ => rfl) (w_heq rfl kk)
theorem x_pT1 {v : Int32} {idx : Nat} (hd : dc Y.2.1 pc (.putfield idx) 3 nx) (hf : FLp Y.1.cls idx 5 1 false .int) (kk : Wp l D Y R n0 X E nx L st (XH N im ps pn (syr T v) ta tb tw tp tn ka kf ks kc mo op tot t) n) : Wp l D Y R n0 X E pc L (.int v :: .ref 14 :: st) (XH N im ps pn T ta tb tw tp tn ka kf ks kc mo op tot t) n :=
  w_put hd hf rfl (Nat.le_of_ble_eq_true rfl) (fun _ => rfl) (fun _ => rfl) (w_heq rfl kk)
theorem x_pT2 {v : Int32} {idx : Nat} (hd : dc Y.2.1 pc (.putfield idx) 3 nx) (hf : FLp Y.1.cls idx 5 2 false .int) (kk : Wp l D Y R n0 X E nx L st (XH N im ps pn (ssg T v) ta tb tw tp tn ka kf ks kc mo op tot t) n) : Wp l D Y R n0 X E pc L (.int v :: .ref 14 :: st) (XH N im ps pn T ta tb tw tp tn ka kf ks kc mo op tot t) n :=
  w_put hd hf rfl (Nat.le_of_ble_eq_true rfl) (fun _ => rfl) (fun _ => rfl) (w_heq rfl kk)
theorem x_pT3 {v : Int32} {idx : Nat} (hd : dc Y.2.1 pc (.putfield idx) 3 nx) (hf : FLp Y.1.cls idx 5 3 false .int) (kk : Wp l D Y R n0 X E nx L st (XH N im ps pn (sop T v) ta tb tw tp tn ka kf ks kc mo op tot t) n) : Wp l D Y R n0 X E pc L (.int v :: .ref 14 :: st) (XH N im ps pn T ta tb tw tp tn ka kf ks kc mo op tot t) n :=
  w_put hd hf rfl (Nat.le_of_ble_eq_true rfl) (fun _ => rfl) (fun _ => rfl) (w_heq rfl kk)
theorem x_aT1 {i x : Int32} (hd : dc Y.2.1 pc .iastore 1 nx) (hi : vp_in i 8) (kk : Wp l D Y R n0 X E nx L st (XH N im ps pn (smk T (upd (wmk T) i.toNatClampNeg x)) ta tb tw tp tn ka kf ks kc mo op tot t) n) : Wp l D Y R n0 X E pc L (.int x :: .int i :: .ref 15 :: st) (XH N im ps pn T ta tb tw tp tn ka kf ks kc mo op tot t) n :=
  w_iast hd rfl hi (w_heq rfl kk)
theorem x_aT2 {i x : Int32} (hd : dc Y.2.1 pc .iastore 1 nx) (hi : vp_in i 8) (kk : Wp l D Y R n0 X E nx L st (XH N im ps pn (spu T (upd (wpu T) i.toNatClampNeg x)) ta tb tw tp tn ka kf ks kc mo op tot t) n) : Wp l D Y R n0 X E pc L (.int x :: .int i :: .ref 16 :: st) (XH N im ps pn T ta tb tw tp tn ka kf ks kc mo op tot t) n :=
  w_iast hd rfl hi (w_heq rfl kk)
theorem x_aT3 {i x : Int32} (hd : dc Y.2.1 pc .iastore 1 nx) (hi : vp_in i 8) (kk : Wp l D Y R n0 X E nx L st (XH N im ps pn (swa T (upd (wwa T) i.toNatClampNeg x)) ta tb tw tp tn ka kf ks kc mo op tot t) n) : Wp l D Y R n0 X E pc L (.int x :: .int i :: .ref 17 :: st) (XH N im ps pn T ta tb tw tp tn ka kf ks kc mo op tot t) n :=
  w_iast hd rfl hi (w_heq rfl kk)
theorem x_aT4 {i x : Int32} (hd : dc Y.2.1 pc .iastore 1 nx) (hi : vp_in i 64) (kk : Wp l D Y R n0 X E nx L st (XH N im ps pn (sde T (upd (wde T) i.toNatClampNeg x)) ta tb tw tp tn ka kf ks kc mo op tot t) n) : Wp l D Y R n0 X E pc L (.int x :: .int i :: .ref 18 :: st) (XH N im ps pn T ta tb tw tp tn ka kf ks kc mo op tot t) n :=
  w_iast hd rfl hi (w_heq rfl kk)
theorem x_aT5 {i x : Int32} (hd : dc Y.2.1 pc .iastore 1 nx) (hi : vp_in i 6) (kk : Wp l D Y R n0 X E nx L st (XH N im ps pn (swn T (upd (wwn T) i.toNatClampNeg x)) ta tb tw tp tn ka kf ks kc mo op tot t) n) : Wp l D Y R n0 X E pc L (.int x :: .int i :: .ref 19 :: st) (XH N im ps pn T ta tb tw tp tn ka kf ks kc mo op tot t) n :=
  w_iast hd rfl hi (w_heq rfl kk)
theorem x_aT6 {i x : Int32} (hd : dc Y.2.1 pc .iastore 1 nx) (hi : vp_in i 6) (kk : Wp l D Y R n0 X E nx L st (XH N im ps pn (shi T (upd (whi T) i.toNatClampNeg x)) ta tb tw tp tn ka kf ks kc mo op tot t) n) : Wp l D Y R n0 X E pc L (.int x :: .int i :: .ref 20 :: st) (XH N im ps pn T ta tb tw tp tn ka kf ks kc mo op tot t) n :=
  w_iast hd rfl hi (w_heq rfl kk)
theorem x_aT7 {i x : Int32} (hd : dc Y.2.1 pc .iastore 1 nx) (hi : vp_in i 6) (kk : Wp l D Y R n0 X E nx L st (XH N im ps pn (sco T (upd (wco T) i.toNatClampNeg x)) ta tb tw tp tn ka kf ks kc mo op tot t) n) : Wp l D Y R n0 X E pc L (.int x :: .int i :: .ref 21 :: st) (XH N im ps pn T ta tb tw tp tn ka kf ks kc mo op tot t) n :=
  w_iast hd rfl hi (w_heq rfl kk)
theorem x_aT8 {i x : Int32} (hd : dc Y.2.1 pc .iastore 1 nx) (hi : vp_in i 8) (kk : Wp l D Y R n0 X E nx L st (XH N im ps pn (ssm T (upd (wsm T) i.toNatClampNeg x)) ta tb tw tp tn ka kf ks kc mo op tot t) n) : Wp l D Y R n0 X E pc L (.int x :: .int i :: .ref 22 :: st) (XH N im ps pn T ta tb tw tp tn ka kf ks kc mo op tot t) n :=
  w_iast hd rfl hi (w_heq rfl kk)
theorem x_pP1 {v : Int32} {idx : Nat} (hd : dc Y.2.1 pc (.putfield idx) 3 nx) (hf : FLp Y.1.cls idx 3 1 false .int) (kk : Wp l D Y R n0 X E nx L st (XH N im ps v T ta tb tw tp tn ka kf ks kc mo op tot t) n) : Wp l D Y R n0 X E pc L (.int v :: .ref 11 :: st) (XH N im ps pn T ta tb tw tp tn ka kf ks kc mo op tot t) n :=
  w_put hd hf rfl (Nat.le_of_ble_eq_true rfl) (fun _ => rfl) (fun _ => rfl) (w_heq rfl kk)
theorem x_aP0 {i x : Int32} (hd : dc Y.2.1 pc .iastore 1 nx) (hi : vp_in i 60) (kk : Wp l D Y R n0 X E nx L st (XH N im (upd ps i.toNatClampNeg x) pn T ta tb tw tp tn ka kf ks kc mo op tot t) n) : Wp l D Y R n0 X E pc L (.int x :: .int i :: .ref 12 :: st) (XH N im ps pn T ta tb tw tp tn ka kf ks kc mo op tot t) n :=
  w_iast hd rfl hi (w_heq rfl kk)
theorem x_pR2 {v : Int32} {idx : Nat} (hd : dc Y.2.1 pc (.putfield idx) 3 nx) (hf : FLp Y.1.cls idx 4 2 false .int) (kk : Wp l D Y R n0 X E nx L st (XH N im ps pn T v tb tw tp tn ka kf ks kc mo op tot t) n) : Wp l D Y R n0 X E pc L (.int v :: .ref 13 :: st) (XH N im ps pn T ta tb tw tp tn ka kf ks kc mo op tot t) n :=
  w_put hd hf rfl (Nat.le_of_ble_eq_true rfl) (fun _ => rfl) (fun _ => rfl) (w_heq rfl kk)
theorem x_pR3 {v : Int32} {idx : Nat} (hd : dc Y.2.1 pc (.putfield idx) 3 nx) (hf : FLp Y.1.cls idx 4 3 false .int) (kk : Wp l D Y R n0 X E nx L st (XH N im ps pn T ta v tw tp tn ka kf ks kc mo op tot t) n) : Wp l D Y R n0 X E pc L (.int v :: .ref 13 :: st) (XH N im ps pn T ta tb tw tp tn ka kf ks kc mo op tot t) n :=
  w_put hd hf rfl (Nat.le_of_ble_eq_true rfl) (fun _ => rfl) (fun _ => rfl) (w_heq rfl kk)
theorem x_pR4 {v : Int32} {idx : Nat} (hd : dc Y.2.1 pc (.putfield idx) 3 nx) (hf : FLp Y.1.cls idx 4 4 false .int) (kk : Wp l D Y R n0 X E nx L st (XH N im ps pn T ta tb v tp tn ka kf ks kc mo op tot t) n) : Wp l D Y R n0 X E pc L (.int v :: .ref 13 :: st) (XH N im ps pn T ta tb tw tp tn ka kf ks kc mo op tot t) n :=
  w_put hd hf rfl (Nat.le_of_ble_eq_true rfl) (fun _ => rfl) (fun _ => rfl) (w_heq rfl kk)
theorem x_pR5 {v : Int32} {idx : Nat} (hd : dc Y.2.1 pc (.putfield idx) 3 nx) (hf : FLp Y.1.cls idx 4 5 false .int) (kk : Wp l D Y R n0 X E nx L st (XH N im ps pn T ta tb tw v tn ka kf ks kc mo op tot t) n) : Wp l D Y R n0 X E pc L (.int v :: .ref 13 :: st) (XH N im ps pn T ta tb tw tp tn ka kf ks kc mo op tot t) n :=
  w_put hd hf rfl (Nat.le_of_ble_eq_true rfl) (fun _ => rfl) (fun _ => rfl) (w_heq rfl kk)
theorem x_pR6 {v : Int32} {idx : Nat} (hd : dc Y.2.1 pc (.putfield idx) 3 nx) (hf : FLp Y.1.cls idx 4 6 false .int) (kk : Wp l D Y R n0 X E nx L st (XH N im ps pn T ta tb tw tp v ka kf ks kc mo op tot t) n) : Wp l D Y R n0 X E pc L (.int v :: .ref 13 :: st) (XH N im ps pn T ta tb tw tp tn ka kf ks kc mo op tot t) n :=
  w_put hd hf rfl (Nat.le_of_ble_eq_true rfl) (fun _ => rfl) (fun _ => rfl) (w_heq rfl kk)
theorem x_pA0 {v : Int32} {idx : Nat} (hd : dc Y.2.1 pc (.putfield idx) 3 nx) (hf : FLp Y.1.cls idx 0 0 false .int) (kk : Wp l D Y R n0 X E nx L st (XH N im ps pn T ta tb tw tp tn v kf ks kc mo op tot t) n) : Wp l D Y R n0 X E pc L (.int v :: .ref 23 :: st) (XH N im ps pn T ta tb tw tp tn ka kf ks kc mo op tot t) n :=
  w_put hd hf rfl (Nat.le_of_ble_eq_true rfl) (fun _ => rfl) (fun _ => rfl) (w_heq rfl kk)
theorem x_pA1 {v : Int32} {idx : Nat} (hd : dc Y.2.1 pc (.putfield idx) 3 nx) (hf : FLp Y.1.cls idx 0 1 false .int) (kk : Wp l D Y R n0 X E nx L st (XH N im ps pn T ta tb tw tp tn ka v ks kc mo op tot t) n) : Wp l D Y R n0 X E pc L (.int v :: .ref 23 :: st) (XH N im ps pn T ta tb tw tp tn ka kf ks kc mo op tot t) n :=
  w_put hd hf rfl (Nat.le_of_ble_eq_true rfl) (fun _ => rfl) (fun _ => rfl) (w_heq rfl kk)
theorem x_pA2 {v : Int32} {idx : Nat} (hd : dc Y.2.1 pc (.putfield idx) 3 nx) (hf : FLp Y.1.cls idx 0 2 false .int) (kk : Wp l D Y R n0 X E nx L st (XH N im ps pn T ta tb tw tp tn ka kf v kc mo op tot t) n) : Wp l D Y R n0 X E pc L (.int v :: .ref 23 :: st) (XH N im ps pn T ta tb tw tp tn ka kf ks kc mo op tot t) n :=
  w_put hd hf rfl (Nat.le_of_ble_eq_true rfl) (fun _ => rfl) (fun _ => rfl) (w_heq rfl kk)
theorem x_pA3 {v : Int32} {idx : Nat} (hd : dc Y.2.1 pc (.putfield idx) 3 nx) (hf : FLp Y.1.cls idx 0 3 false .int) (kk : Wp l D Y R n0 X E nx L st (XH N im ps pn T ta tb tw tp tn ka kf ks v mo op tot t) n) : Wp l D Y R n0 X E pc L (.int v :: .ref 23 :: st) (XH N im ps pn T ta tb tw tp tn ka kf ks kc mo op tot t) n :=
  w_put hd hf rfl (Nat.le_of_ble_eq_true rfl) (fun _ => rfl) (fun _ => rfl) (w_heq rfl kk)
theorem x_aM0 {i x : Int32} (hd : dc Y.2.1 pc .iastore 1 nx) (hi : vp_in i 576) (kk : Wp l D Y R n0 X E nx L st (XH N im ps pn T ta tb tw tp tn ka kf ks kc (upd mo i.toNatClampNeg x) op tot t) n) : Wp l D Y R n0 X E pc L (.int x :: .int i :: .ref 25 :: st) (XH N im ps pn T ta tb tw tp tn ka kf ks kc mo op tot t) n :=
  w_iast hd rfl hi (w_heq rfl kk)
theorem x_aL0 {i x : Int32} (hd : dc Y.2.1 pc .iastore 1 nx) (hi : vp_in i 8) (kk : Wp l D Y R n0 X E nx L st (XH N im ps pn T ta tb tw tp tn ka kf ks kc mo (upd op i.toNatClampNeg x) tot t) n) : Wp l D Y R n0 X E pc L (.int x :: .int i :: .ref 27 :: st) (XH N im ps pn T ta tb tw tp tn ka kf ks kc mo op tot t) n :=
  w_iast hd rfl hi (w_heq rfl kk)
theorem x_pL1 {v : Int32} {idx : Nat} (hd : dc Y.2.1 pc (.putfield idx) 3 nx) (hf : FLp Y.1.cls idx 1 1 false .int) (kk : Wp l D Y R n0 X E nx L st (XH N im ps pn T ta tb tw tp tn ka kf ks kc mo op v t) n) : Wp l D Y R n0 X E pc L (.int v :: .ref 26 :: st) (XH N im ps pn T ta tb tw tp tn ka kf ks kc mo op tot t) n :=
  w_put hd hf rfl (Nat.le_of_ble_eq_true rfl) (fun _ => rfl) (fun _ => rfl) (w_heq rfl kk)
end PXH
abbrev MS : Type := (Nat → Int32) × (Nat → Int32) × (Nat → Int32) × (Nat → Int32) × Int32 × (Nat → Int32) × Int32 × (Nat → Int32) × Int32 × Int32 × Int32 × Int32 × Int32 × (Nat → Int32) × (Nat → Int32) × (Nat → Int32) × (Nat → Int32)
def mbk (M : MS) : Nat → Int32 := M.1
def mnw (M : MS) : Nat → Int32 := M.2.1
def mwn (M : MS) : Nat → Int32 := M.2.2.1
def mhi (M : MS) : Nat → Int32 := M.2.2.2.1
def msg (M : MS) : Int32 := M.2.2.2.2.1
def msi (M : MS) : Nat → Int32 := M.2.2.2.2.2.1
def msn (M : MS) : Int32 := M.2.2.2.2.2.2.1
def mpd (M : MS) : Nat → Int32 := M.2.2.2.2.2.2.2.1
def mon (M : MS) : Int32 := M.2.2.2.2.2.2.2.2.1
def mot (M : MS) : Int32 := M.2.2.2.2.2.2.2.2.2.1
def mio (M : MS) : Int32 := M.2.2.2.2.2.2.2.2.2.2.1
def mre (M : MS) : Int32 := M.2.2.2.2.2.2.2.2.2.2.2.1
def mac (M : MS) : Int32 := M.2.2.2.2.2.2.2.2.2.2.2.2.1
def mmo (M : MS) : Nat → Int32 := M.2.2.2.2.2.2.2.2.2.2.2.2.2.1
def mye (M : MS) : Nat → Int32 := M.2.2.2.2.2.2.2.2.2.2.2.2.2.2.1
def mim (M : MS) : Nat → Int32 := M.2.2.2.2.2.2.2.2.2.2.2.2.2.2.2.1
def mkp (M : MS) : Nat → Int32 := M.2.2.2.2.2.2.2.2.2.2.2.2.2.2.2.2
def tbk (M : MS) (x : Nat → Int32) : MS := (x, mnw M, mwn M, mhi M, msg M, msi M, msn M, mpd M, mon M, mot M, mio M, mre M, mac M, mmo M, mye M, mim M, mkp M)
def tnw (M : MS) (x : Nat → Int32) : MS := (mbk M, x, mwn M, mhi M, msg M, msi M, msn M, mpd M, mon M, mot M, mio M, mre M, mac M, mmo M, mye M, mim M, mkp M)
def twn (M : MS) (x : Nat → Int32) : MS := (mbk M, mnw M, x, mhi M, msg M, msi M, msn M, mpd M, mon M, mot M, mio M, mre M, mac M, mmo M, mye M, mim M, mkp M)
def thi (M : MS) (x : Nat → Int32) : MS := (mbk M, mnw M, mwn M, x, msg M, msi M, msn M, mpd M, mon M, mot M, mio M, mre M, mac M, mmo M, mye M, mim M, mkp M)
def tsg (M : MS) (x : Int32) : MS := (mbk M, mnw M, mwn M, mhi M, x, msi M, msn M, mpd M, mon M, mot M, mio M, mre M, mac M, mmo M, mye M, mim M, mkp M)
def tsi (M : MS) (x : Nat → Int32) : MS := (mbk M, mnw M, mwn M, mhi M, msg M, x, msn M, mpd M, mon M, mot M, mio M, mre M, mac M, mmo M, mye M, mim M, mkp M)
def tsn (M : MS) (x : Int32) : MS := (mbk M, mnw M, mwn M, mhi M, msg M, msi M, x, mpd M, mon M, mot M, mio M, mre M, mac M, mmo M, mye M, mim M, mkp M)
def tpd (M : MS) (x : Nat → Int32) : MS := (mbk M, mnw M, mwn M, mhi M, msg M, msi M, msn M, x, mon M, mot M, mio M, mre M, mac M, mmo M, mye M, mim M, mkp M)
def ton (M : MS) (x : Int32) : MS := (mbk M, mnw M, mwn M, mhi M, msg M, msi M, msn M, mpd M, x, mot M, mio M, mre M, mac M, mmo M, mye M, mim M, mkp M)
def tot (M : MS) (x : Int32) : MS := (mbk M, mnw M, mwn M, mhi M, msg M, msi M, msn M, mpd M, mon M, x, mio M, mre M, mac M, mmo M, mye M, mim M, mkp M)
def tio (M : MS) (x : Int32) : MS := (mbk M, mnw M, mwn M, mhi M, msg M, msi M, msn M, mpd M, mon M, mot M, x, mre M, mac M, mmo M, mye M, mim M, mkp M)
def tre (M : MS) (x : Int32) : MS := (mbk M, mnw M, mwn M, mhi M, msg M, msi M, msn M, mpd M, mon M, mot M, mio M, x, mac M, mmo M, mye M, mim M, mkp M)
def tac (M : MS) (x : Int32) : MS := (mbk M, mnw M, mwn M, mhi M, msg M, msi M, msn M, mpd M, mon M, mot M, mio M, mre M, x, mmo M, mye M, mim M, mkp M)
def tmo (M : MS) (x : Nat → Int32) : MS := (mbk M, mnw M, mwn M, mhi M, msg M, msi M, msn M, mpd M, mon M, mot M, mio M, mre M, mac M, x, mye M, mim M, mkp M)
def tye (M : MS) (x : Nat → Int32) : MS := (mbk M, mnw M, mwn M, mhi M, msg M, msi M, msn M, mpd M, mon M, mot M, mio M, mre M, mac M, mmo M, x, mim M, mkp M)
def tim (M : MS) (x : Nat → Int32) : MS := (mbk M, mnw M, mwn M, mhi M, msg M, msi M, msn M, mpd M, mon M, mot M, mio M, mre M, mac M, mmo M, mye M, x, mkp M)
def tkp (M : MS) (x : Nat → Int32) : MS := (mbk M, mnw M, mwn M, mhi M, msg M, msi M, msn M, mpd M, mon M, mot M, mio M, mre M, mac M, mmo M, mye M, mim M, x)
def mcs (M : MS) : PH := [.inr (7, [.ref 29, .ref 30, .ref 31, .ref 32, .int (msg M), .ref 33, .int (msn M), .ref 34, .int (mon M), .int (mot M), .int (mio M), .int (mre M), .int (mac M), .ref 35, .ref 36, .ref 37, .ref 38]), ia 96 (mbk M), ia 96 (mnw M), ia 6 (mwn M), ia 6 (mhi M), ia 16 (msi M), ia 60 (mpd M), ia 576 (mmo M), ia 8 (mye M), ia 260 (mim M), za 2 (mkp M)]
def mput (h : PH) (M : MS) : PH := h.take 28 ++ (mcs M ++ h.drop 39)
theorem mlen {h : PH} {M : MS} (hb : 38 < h.length) : (mput h M).length = h.length := by
  have h1 : (mcs M).length = 11 := rfl
  simp only [mput, List.length_append, List.length_take, List.length_drop, h1]
  omega
theorem mat {h : PH} {k : Nat} {M : MS} {c : PC} (hb : 38 < h.length) (hk : k < 11) (hc : (mcs M)[k]? = some c) : (mput h M)[28 + k]? = some c := by
  have h1 : (mcs M).length = 11 := rfl
  unfold mput
  rw [List.getElem?_append_right (by rw [List.length_take]; omega), List.length_take, Nat.min_eq_left (by omega), Nat.add_sub_cancel_left, List.getElem?_append_left (by omega)]
  exact hc
theorem mst {h : PH} {k : Nat} {M M2 : MS} {c : PC} (hb : 38 < h.length) (hk : k < 11) (hc : (mcs M).set k c = mcs M2) : (mput h M).set (28 + k) c = mput h M2 := by
  have h1 : (mcs M).length = 11 := rfl
  unfold mput
  rw [List.set_append_right _ _ (by rw [List.length_take]; omega), List.length_take, Nat.min_eq_left (by omega), Nat.add_sub_cancel_left, List.set_append_left _ _ (by omega), hc]
theorem mg0 {h : PH} {M : MS} (hb : 38 < h.length) : (mput h M)[28]? = some (.inr (7, [.ref 29, .ref 30, .ref 31, .ref 32, .int (msg M), .ref 33, .int (msn M), .ref 34, .int (mon M), .int (mot M), .int (mio M), .int (mre M), .int (mac M), .ref 35, .ref 36, .ref 37, .ref 38])) := mat (k := 0) hb (by decide) rfl
theorem mg_bk {h : PH} {M : MS} (hb : 38 < h.length) : (mput h M)[29]? = some (ia 96 (mbk M)) := mat (k := 1) hb (by decide) rfl
theorem mg_nw {h : PH} {M : MS} (hb : 38 < h.length) : (mput h M)[30]? = some (ia 96 (mnw M)) := mat (k := 2) hb (by decide) rfl
theorem mg_wn {h : PH} {M : MS} (hb : 38 < h.length) : (mput h M)[31]? = some (ia 6 (mwn M)) := mat (k := 3) hb (by decide) rfl
theorem mg_hi {h : PH} {M : MS} (hb : 38 < h.length) : (mput h M)[32]? = some (ia 6 (mhi M)) := mat (k := 4) hb (by decide) rfl
theorem mg_si {h : PH} {M : MS} (hb : 38 < h.length) : (mput h M)[33]? = some (ia 16 (msi M)) := mat (k := 5) hb (by decide) rfl
theorem mg_pd {h : PH} {M : MS} (hb : 38 < h.length) : (mput h M)[34]? = some (ia 60 (mpd M)) := mat (k := 6) hb (by decide) rfl
theorem mg_mo {h : PH} {M : MS} (hb : 38 < h.length) : (mput h M)[35]? = some (ia 576 (mmo M)) := mat (k := 7) hb (by decide) rfl
theorem mg_ye {h : PH} {M : MS} (hb : 38 < h.length) : (mput h M)[36]? = some (ia 8 (mye M)) := mat (k := 8) hb (by decide) rfl
theorem mg_im {h : PH} {M : MS} (hb : 38 < h.length) : (mput h M)[37]? = some (ia 260 (mim M)) := mat (k := 9) hb (by decide) rfl
theorem mg_kp {h : PH} {M : MS} (hb : 38 < h.length) : (mput h M)[38]? = some (za 2 (mkp M)) := mat (k := 10) hb (by decide) rfl
section PMH
variable {l : Launch} {D : va_G} {Y : PMth} {R : Room} {n0 : Nat} {X : State → Array Value → Nat → Prop} {E : List Frame → Array Value → State → Nat → State → Prop} {pc nx : Nat} {L : List (Option Value)} {st st0 : List Value} {h h2 : PH} {n : Nat} {M : MS}
theorem w_pM4 {v : Int32} {idx : Nat} (hd : dc Y.2.1 pc (.putfield idx) 3 nx) (hf : FLp Y.1.cls idx 7 4 false .int) (hb : 38 < h.length) (kk : Wp l D Y R n0 X E nx L st (mput h (tsg M v)) n) : Wp l D Y R n0 X E pc L (.int v :: .ref 28 :: st) (mput h M) n := by
  refine w_put hd hf (mg0 hb) (Nat.le_of_ble_eq_true rfl) (fun _ => rfl) (fun _ => rfl) ?_
  exact w_heq (mst (k := 0) hb (by decide) rfl) kk
theorem w_pM6 {v : Int32} {idx : Nat} (hd : dc Y.2.1 pc (.putfield idx) 3 nx) (hf : FLp Y.1.cls idx 7 6 false .int) (hb : 38 < h.length) (kk : Wp l D Y R n0 X E nx L st (mput h (tsn M v)) n) : Wp l D Y R n0 X E pc L (.int v :: .ref 28 :: st) (mput h M) n := by
  refine w_put hd hf (mg0 hb) (Nat.le_of_ble_eq_true rfl) (fun _ => rfl) (fun _ => rfl) ?_
  exact w_heq (mst (k := 0) hb (by decide) rfl) kk
theorem w_pM8 {v : Int32} {idx : Nat} (hd : dc Y.2.1 pc (.putfield idx) 3 nx) (hf : FLp Y.1.cls idx 7 8 false .int) (hb : 38 < h.length) (kk : Wp l D Y R n0 X E nx L st (mput h (ton M v)) n) : Wp l D Y R n0 X E pc L (.int v :: .ref 28 :: st) (mput h M) n := by
  refine w_put hd hf (mg0 hb) (Nat.le_of_ble_eq_true rfl) (fun _ => rfl) (fun _ => rfl) ?_
  exact w_heq (mst (k := 0) hb (by decide) rfl) kk
theorem w_pM9 {v : Int32} {idx : Nat} (hd : dc Y.2.1 pc (.putfield idx) 3 nx) (hf : FLp Y.1.cls idx 7 9 false .int) (hb : 38 < h.length) (kk : Wp l D Y R n0 X E nx L st (mput h (tot M v)) n) : Wp l D Y R n0 X E pc L (.int v :: .ref 28 :: st) (mput h M) n := by
  refine w_put hd hf (mg0 hb) (Nat.le_of_ble_eq_true rfl) (fun _ => rfl) (fun _ => rfl) ?_
  exact w_heq (mst (k := 0) hb (by decide) rfl) kk
theorem w_pM10 {v : Int32} {idx : Nat} (hd : dc Y.2.1 pc (.putfield idx) 3 nx) (hf : FLp Y.1.cls idx 7 10 false .boolean) (hb : 38 < h.length) (hv : narrow .boolean (.int v) = .int v) (hv2 : fits .boolean (.int v) = true) (kk : Wp l D Y R n0 X E nx L st (mput h (tio M v)) n) : Wp l D Y R n0 X E pc L (.int v :: .ref 28 :: st) (mput h M) n := by
  refine w_put hd hf (mg0 hb) (Nat.le_of_ble_eq_true rfl) (fun _ => hv) (fun _ => hv2) ?_
  exact w_heq (mst (k := 0) hb (by decide) rfl) kk
theorem w_pM11 {v : Int32} {idx : Nat} (hd : dc Y.2.1 pc (.putfield idx) 3 nx) (hf : FLp Y.1.cls idx 7 11 false .int) (hb : 38 < h.length) (kk : Wp l D Y R n0 X E nx L st (mput h (tre M v)) n) : Wp l D Y R n0 X E pc L (.int v :: .ref 28 :: st) (mput h M) n := by
  refine w_put hd hf (mg0 hb) (Nat.le_of_ble_eq_true rfl) (fun _ => rfl) (fun _ => rfl) ?_
  exact w_heq (mst (k := 0) hb (by decide) rfl) kk
theorem w_pM12 {v : Int32} {idx : Nat} (hd : dc Y.2.1 pc (.putfield idx) 3 nx) (hf : FLp Y.1.cls idx 7 12 false .int) (hb : 38 < h.length) (kk : Wp l D Y R n0 X E nx L st (mput h (tac M v)) n) : Wp l D Y R n0 X E pc L (.int v :: .ref 28 :: st) (mput h M) n := by
  refine w_put hd hf (mg0 hb) (Nat.le_of_ble_eq_true rfl) (fun _ => rfl) (fun _ => rfl) ?_
  exact w_heq (mst (k := 0) hb (by decide) rfl) kk
theorem w_aM_bk {i x : Int32} (hd : dc Y.2.1 pc .iastore 1 nx) (hb : 38 < h.length) (hi : vp_in i 96) (kk : Wp l D Y R n0 X E nx L st (mput h (tbk M (upd (mbk M) i.toNatClampNeg x))) n) : Wp l D Y R n0 X E pc L (.int x :: .int i :: .ref 29 :: st) (mput h M) n := by
  refine w_iast hd (mg_bk hb) hi ?_
  exact w_heq (mst (k := 1) hb (by decide) rfl) kk
theorem w_aM_nw {i x : Int32} (hd : dc Y.2.1 pc .iastore 1 nx) (hb : 38 < h.length) (hi : vp_in i 96) (kk : Wp l D Y R n0 X E nx L st (mput h (tnw M (upd (mnw M) i.toNatClampNeg x))) n) : Wp l D Y R n0 X E pc L (.int x :: .int i :: .ref 30 :: st) (mput h M) n := by
  refine w_iast hd (mg_nw hb) hi ?_
  exact w_heq (mst (k := 2) hb (by decide) rfl) kk
theorem w_aM_wn {i x : Int32} (hd : dc Y.2.1 pc .iastore 1 nx) (hb : 38 < h.length) (hi : vp_in i 6) (kk : Wp l D Y R n0 X E nx L st (mput h (twn M (upd (mwn M) i.toNatClampNeg x))) n) : Wp l D Y R n0 X E pc L (.int x :: .int i :: .ref 31 :: st) (mput h M) n := by
  refine w_iast hd (mg_wn hb) hi ?_
  exact w_heq (mst (k := 3) hb (by decide) rfl) kk
theorem w_aM_hi {i x : Int32} (hd : dc Y.2.1 pc .iastore 1 nx) (hb : 38 < h.length) (hi : vp_in i 6) (kk : Wp l D Y R n0 X E nx L st (mput h (thi M (upd (mhi M) i.toNatClampNeg x))) n) : Wp l D Y R n0 X E pc L (.int x :: .int i :: .ref 32 :: st) (mput h M) n := by
  refine w_iast hd (mg_hi hb) hi ?_
  exact w_heq (mst (k := 4) hb (by decide) rfl) kk
theorem w_aM_si {i x : Int32} (hd : dc Y.2.1 pc .iastore 1 nx) (hb : 38 < h.length) (hi : vp_in i 16) (kk : Wp l D Y R n0 X E nx L st (mput h (tsi M (upd (msi M) i.toNatClampNeg x))) n) : Wp l D Y R n0 X E pc L (.int x :: .int i :: .ref 33 :: st) (mput h M) n := by
  refine w_iast hd (mg_si hb) hi ?_
  exact w_heq (mst (k := 5) hb (by decide) rfl) kk
theorem w_aM_pd {i x : Int32} (hd : dc Y.2.1 pc .iastore 1 nx) (hb : 38 < h.length) (hi : vp_in i 60) (kk : Wp l D Y R n0 X E nx L st (mput h (tpd M (upd (mpd M) i.toNatClampNeg x))) n) : Wp l D Y R n0 X E pc L (.int x :: .int i :: .ref 34 :: st) (mput h M) n := by
  refine w_iast hd (mg_pd hb) hi ?_
  exact w_heq (mst (k := 6) hb (by decide) rfl) kk
theorem w_aM_mo {i x : Int32} (hd : dc Y.2.1 pc .iastore 1 nx) (hb : 38 < h.length) (hi : vp_in i 576) (kk : Wp l D Y R n0 X E nx L st (mput h (tmo M (upd (mmo M) i.toNatClampNeg x))) n) : Wp l D Y R n0 X E pc L (.int x :: .int i :: .ref 35 :: st) (mput h M) n := by
  refine w_iast hd (mg_mo hb) hi ?_
  exact w_heq (mst (k := 7) hb (by decide) rfl) kk
theorem w_aM_ye {i x : Int32} (hd : dc Y.2.1 pc .iastore 1 nx) (hb : 38 < h.length) (hi : vp_in i 8) (kk : Wp l D Y R n0 X E nx L st (mput h (tye M (upd (mye M) i.toNatClampNeg x))) n) : Wp l D Y R n0 X E pc L (.int x :: .int i :: .ref 36 :: st) (mput h M) n := by
  refine w_iast hd (mg_ye hb) hi ?_
  exact w_heq (mst (k := 8) hb (by decide) rfl) kk
theorem w_aM_im {i x : Int32} (hd : dc Y.2.1 pc .iastore 1 nx) (hb : 38 < h.length) (hi : vp_in i 260) (kk : Wp l D Y R n0 X E nx L st (mput h (tim M (upd (mim M) i.toNatClampNeg x))) n) : Wp l D Y R n0 X E pc L (.int x :: .int i :: .ref 37 :: st) (mput h M) n := by
  refine w_iast hd (mg_im hb) hi ?_
  exact w_heq (mst (k := 9) hb (by decide) rfl) kk
theorem w_aM_kp {i x : Int32} (hd : dc Y.2.1 pc .bastore 1 nx) (hb : 38 < h.length) (hi : vp_in i 2) (hx : vp_nar .boolean x = x) (kk : Wp l D Y R n0 X E nx L st (mput h (tkp M (upd (mkp M) i.toNatClampNeg x))) n) : Wp l D Y R n0 X E pc L (.int x :: .int i :: .ref 38 :: st) (mput h M) n := by
  refine w_zast hd (mg_kp hb) hi hx ?_
  exact w_heq (mst (k := 10) hb (by decide) rfl) kk
end PMH
