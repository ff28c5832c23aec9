theorem app_at {h0 ws : PH} {k : Nat} {c : PC} (hk : ws[k]? = some c) : (h0 ++ ws)[h0.length + k]? = some c := by
  rw [List.getElem?_append_right (by omega), Nat.add_sub_cancel_left]; exact hk
theorem app_set {h0 ws ws2 : PH} {k : Nat} {c : PC} (hs : ws.set k c = ws2) : (h0 ++ ws).set (h0.length + k) c = h0 ++ ws2 := by
  rw [List.set_append_right _ _ (by omega), Nat.add_sub_cancel_left, hs]
section PIN
variable {l : Launch} {D : va_G} {Y : PMth} {R : Room} {n0 : Nat} {X : State → Array Value → Nat → Prop} {E : List Frame → Array Value → State → Nat → State → Prop} {pc nx : Nat} {L : List (Option Value)} {st st0 : List Value} {h0 ws ws2 : PH} {n : Nat}
theorem i_put {j k ci idx : Nat} {ty : FieldType} {fs : List Value} {v : Value} (hd : dc Y.2.1 pc (.putfield idx) 3 nx) (hf : FLp Y.1.cls idx ci k false ty) (hc : ws[j]? = some (.inr (ci, fs))) (hk : k < fs.length) (hn : ∀ B, narrow ty (pv B v) = pv B v) (hfit : ∀ B, fits ty (pv B v) = true) (hs : ws.set j (.inr (ci, fs.set k v)) = ws2) (kk : Wp l D Y R n0 X E nx L st (h0 ++ ws2) n) : Wp l D Y R n0 X E pc L (v :: .ref (h0.length + j) :: st) (h0 ++ ws) n :=
  w_put hd hf (app_at hc) hk hn hfit (w_heq (app_set hs) kk)
theorem i_putF {j k ci idx : Nat} {ty : FieldType} {fs : List Value} {v : Value} {T1 : u_T} {N1 : Nat} (hd : dc Y.2.1 pc (.putfield idx) 3 nx) (hf : FLp Y.1.cls idx ci k true ty) (hY : Y.1.name = "<init>") (hC : vwCl[ci]? = some (Y.1.cls, T1, N1)) (hl : Cond.fieldLink Y.1.cls idx Y.1.cls (T1 k).2.1 (T1 k).2.2.1 ∈ pTb) (hc : ws[j]? = some (.inr (ci, fs))) (hk : k < fs.length) (hn : ∀ B, narrow ty (pv B v) = pv B v) (hfit : ∀ B, fits ty (pv B v) = true) (hs : ws.set j (.inr (ci, fs.set k v)) = ws2) (kk : Wp l D Y R n0 X E nx L st (h0 ++ ws2) n) : Wp l D Y R n0 X E pc L (v :: .ref (h0.length + j) :: st) (h0 ++ ws) n :=
  w_putF hd hf hY hC hl (app_at hc) hk hn hfit (w_heq (app_set hs) kk)
theorem i_newI {x : Int32} {N m : Nat} (hd : dc Y.2.1 pc (.newarray .int) 2 nx) (hn : ¬ x < 0) (hN : x.toNatClampNeg = N) (hby : N * 4 ≤ 536870912) (hm : ws.length = m) (hrc : h0.length + m - n0 + 1 ≤ R.cells) (hrs : n + N ≤ R.slots) (hs : ws ++ [ia N (fun _ => 0)] = ws2) (kk : Wp l D Y R n0 X E nx L (.ref (h0.length + m) :: st) (h0 ++ ws2) (n + N)) : Wp l D Y R n0 X E pc L (.int x :: st) (h0 ++ ws) n :=
  w_newI hd hn hN hby (by rw [List.length_append, hm]) hrc hrs (w_heq (by rw [List.append_assoc, hs]) kk)
theorem i_newZ {x : Int32} {N m : Nat} (hd : dc Y.2.1 pc (.newarray .boolean) 2 nx) (hn : ¬ x < 0) (hN : x.toNatClampNeg = N) (hby : N * 1 ≤ 536870912) (hm : ws.length = m) (hrc : h0.length + m - n0 + 1 ≤ R.cells) (hrs : n + N ≤ R.slots) (hs : ws ++ [za N (fun _ => 0)] = ws2) (kk : Wp l D Y R n0 X E nx L (.ref (h0.length + m) :: st) (h0 ++ ws2) (n + N)) : Wp l D Y R n0 X E pc L (.int x :: st) (h0 ++ ws) n :=
  w_newZ hd hn hN hby (by rw [List.length_append, hm]) hrc hrs (w_heq (by rw [List.append_assoc, hs]) kk)
theorem i_newQ {x : Int32} {N m idx : Nat} (hd : dc Y.2.1 pc (.anewarray idx) 3 nx) (hcl : Cond.classLink Y.1.cls idx RX5 ∈ pTb) (hn : ¬ x < 0) (hN : x.toNatClampNeg = N) (hby : N * 4 ≤ 536870912) (hm : ws.length = m) (hrc : h0.length + m - n0 + 1 ≤ R.cells) (hrs : n + N ≤ R.slots) (hs : ws ++ [qa N (fun _ => none)] = ws2) (kk : Wp l D Y R n0 X E nx L (.ref (h0.length + m) :: st) (h0 ++ ws2) (n + N)) : Wp l D Y R n0 X E pc L (.int x :: st) (h0 ++ ws) n :=
  w_newQ hd hcl hn hN hby (by rw [List.length_append, hm]) hrc hrs (w_heq (by rw [List.append_assoc, hs]) kk)
theorem i_new {ci N m idx : Nat} {fs : List Value} (hd : dc Y.2.1 pc (.new idx) 3 nx) (hw : NWp Y.1.cls idx ci N fs) (hfs : ∀ B, fs.map (pv B) = fs) (hm : ws.length = m) (hrc : h0.length + m - n0 + 1 ≤ R.cells) (hrs : n + N ≤ R.slots) (kk : Wp l D Y R n0 X E nx L (.ref (h0.length + m) :: st) ((h0 ++ ws) ++ [.inr (ci, fs)]) (n + N)) : Wp l D Y R n0 X E pc L st (h0 ++ ws) n :=
  w_new hd hw hfs (by rw [List.length_append, hm]) hrc hrs kk
theorem i_call {Yc : PMth} {d mc ms m idx : Nat} {c : PC} {cs : PH} (hd : dc Y.2.1 pc (.invokespecial idx) 3 nx) (hk : KIp Y.1.cls idx Yc 0) (hM : PM l D Yc d [.ref (h0.length + m)] ((h0 ++ ws) ++ [c]) mc ms none ((h0 ++ ws) ++ cs)) (hfr : d + 1 ≤ R.frames) (hlo : 8 + (Yc.2.2.1 + 11) + 40 * d ≤ R.locals) (hW : (st.map fun v => v.category).sum ≤ 8) (hm : ws.length = m) (hrc : h0.length + m + 1 - n0 + mc ≤ R.cells) (hrs : n + ms ≤ R.slots) (hs : ws ++ cs = ws2) (kk : Wp l D Y R n0 X E nx L st (h0 ++ ws2) (n + ms)) : Wp l D Y R n0 X E pc L (.ref (h0.length + m) :: st) ((h0 ++ ws) ++ [c]) n :=
  w_callI (As := []) hd hk hM rfl rfl hfr hlo hW ⟨by rw [List.length_append, List.length_append, hm]; exact hrc, hrs⟩ (w_heq (by rw [List.append_assoc, hs]) kk)
theorem i_ast {j N : Nat} {f : Nat → Int32} {i x : Int32} (hd : dc Y.2.1 pc .iastore 1 nx) (hc : ws[j]? = some (ia N f)) (hi : vp_in i N) (hs : ws.set j (ia N (upd f i.toNatClampNeg x)) = ws2) (kk : Wp l D Y R n0 X E nx L st (h0 ++ ws2) n) : Wp l D Y R n0 X E pc L (.int x :: .int i :: .ref (h0.length + j) :: st) (h0 ++ ws) n :=
  w_iast hd (app_at hc) hi (w_heq (app_set hs) kk)
end PIN
def was0 (k : Nat) : Nat → Int32 := iter (fun i f => upd f (nI i).toNatClampNeg (-6)) k (fun _ => 0)
def hit0 (k : Nat) : Nat → Int32 := iter (fun i f => upd f (nI i).toNatClampNeg 1) k (fun _ => 0)
def w0 : WS := (0, 0, 0, 0, fun _ => 0, fun _ => 0, was0 8, fun _ => 0, fun _ => 0, hit0 6, fun _ => 0, fun _ => 0)
theorem cl_X6_7 : Cond.classLink RX6 7 RX5 ∈ pTb := inT 82 (by decide +kernel) rfl
set_option maxRecDepth 100000 in
set_option maxHeartbeats 4000000 in
theorem pm_X0_init {l : Launch} {D : va_G} {h0 : PH} {q : Nat} (hq : h0.length = q) : PM l D YX0_init 1 [.ref q] (h0 ++ [.inr (0, [.int 0, .int 0, .int 0, .int 0])]) 0 0 none (h0 ++ [.inr (0, [.int 0, .int 0, .int 0, .int 0])]) := by
  subst hq
  refine pm_of2 (n0 := h0.length + 1) kb_YX0_init (by rw [List.length_append]; rfl) [some (.ref (h0.length + 0))] (fun _ => rfl) (fun _ => (Nat.le_of_ble_eq_true rfl)) ?_
  refine w_aload_n dX0_init_0 rfl ?_
  refine w_objInit dX0_init_1 o_X0_3 (Nat.le_of_ble_eq_true rfl) (Nat.le_of_ble_eq_true rfl) (Nat.le_of_ble_eq_true rfl) ?_
  refine w_aload_n dX0_init_4 rfl ?_
  refine w_iconst (v := 0) dX0_init_5 (by decide) ?_
  refine i_put (j := 0) (ws2 := [.inr (0, [.int 0, .int 0, .int 0, .int 0])]) dX0_init_6 f_X0_11 rfl (Nat.le_of_ble_eq_true rfl) (fun _ => rfl) (fun _ => rfl) rfl ?_
  refine w_aload_n dX0_init_9 rfl ?_
  refine w_iconst (v := 0) dX0_init_10 (by decide) ?_
  refine i_put (j := 0) (ws2 := [.inr (0, [.int 0, .int 0, .int 0, .int 0])]) dX0_init_11 f_X0_15 rfl (Nat.le_of_ble_eq_true rfl) (fun _ => rfl) (fun _ => rfl) rfl ?_
  refine w_aload_n dX0_init_14 rfl ?_
  refine w_iconst (v := 0) dX0_init_15 (by decide) ?_
  refine i_put (j := 0) (ws2 := [.inr (0, [.int 0, .int 0, .int 0, .int 0])]) dX0_init_16 f_X0_18 rfl (Nat.le_of_ble_eq_true rfl) (fun _ => rfl) (fun _ => rfl) rfl ?_
  refine w_aload_n dX0_init_19 rfl ?_
  refine w_iconst (v := 0) dX0_init_20 (by decide) ?_
  refine i_put (j := 0) (ws2 := [.inr (0, [.int 0, .int 0, .int 0, .int 0])]) dX0_init_21 f_X0_21 rfl (Nat.le_of_ble_eq_true rfl) (fun _ => rfl) (fun _ => rfl) rfl ?_
  exact w_vret dX0_init_24 rfl rfl (by simp only [List.length_append]; rfl) (Nat.le_of_ble_eq_true rfl)
set_option maxRecDepth 100000 in
set_option maxHeartbeats 4000000 in
theorem pm_X1_init {l : Launch} {D : va_G} {h0 : PH} {q : Nat} (hq : h0.length = q) : PM l D YX1_init 1 [.ref q] (h0 ++ [.inr (1, [.null, .int 0])]) 1 8 none (h0 ++ [.inr (1, [.ref (q + 1), .int 0]), ia 8 (fun _ => 0)]) := by
  subst hq
  refine pm_of2 (n0 := h0.length + 1) kb_YX1_init (by rw [List.length_append]; rfl) [some (.ref (h0.length + 0))] (fun _ => rfl) (fun _ => (Nat.le_of_ble_eq_true rfl)) ?_
  refine w_aload_n dX1_init_0 rfl ?_
  refine w_objInit dX1_init_1 o_X1_3 (Nat.le_of_ble_eq_true rfl) (Nat.le_of_ble_eq_true rfl) (Nat.le_of_ble_eq_true rfl) ?_
  refine w_aload_n dX1_init_4 rfl ?_
  refine w_bipush (v := 8) dX1_init_5 (by decide) ?_
  refine i_newI (N := 8) (m := 1) (ws2 := [.inr (1, [.null, .int 0]), ia 8 (fun _ => 0)]) dX1_init_7 (by decide) (by decide) (by decide) rfl (by simp only [pRm]; omega) (by simp only [pRm]; omega) rfl ?_
  refine i_putF (j := 0) (ws2 := [.inr (1, [.ref (h0.length + 1), .int 0]), ia 8 (fun _ => 0)]) dX1_init_9 f_X1_9 rfl rfl (inT 236 (by decide +kernel) rfl) rfl (Nat.le_of_ble_eq_true rfl) (fun _ => rfl) (fun _ => rfl) rfl ?_
  refine w_aload_n dX1_init_12 rfl ?_
  refine w_iconst (v := 0) dX1_init_13 (by decide) ?_
  refine i_put (j := 0) (ws2 := [.inr (1, [.ref (h0.length + 1), .int 0]), ia 8 (fun _ => 0)]) dX1_init_14 f_X1_15 rfl (Nat.le_of_ble_eq_true rfl) (fun _ => rfl) (fun _ => rfl) rfl ?_
  exact w_vret dX1_init_17 rfl rfl (by simp only [List.length_append]; rfl) (Nat.le_of_ble_eq_true rfl)
set_option maxRecDepth 100000 in
set_option maxHeartbeats 4000000 in
theorem pm_X2_init {l : Launch} {D : va_G} {h0 : PH} {q : Nat} (hq : h0.length = q) : PM l D YX2_init 1 [.ref q] (h0 ++ [.inr (2, [.null])]) 1 576 none (h0 ++ [.inr (2, [.ref (q + 1)]), ia 576 (fun _ => 0)]) := by
  subst hq
  refine pm_of2 (n0 := h0.length + 1) kb_YX2_init (by rw [List.length_append]; rfl) [some (.ref (h0.length + 0))] (fun _ => rfl) (fun _ => (Nat.le_of_ble_eq_true rfl)) ?_
  refine w_aload_n dX2_init_0 rfl ?_
  refine w_objInit dX2_init_1 o_X2_3 (Nat.le_of_ble_eq_true rfl) (Nat.le_of_ble_eq_true rfl) (Nat.le_of_ble_eq_true rfl) ?_
  refine w_aload_n dX2_init_4 rfl ?_
  refine w_sipush (v := 576) dX2_init_5 (by decide) ?_
  refine i_newI (N := 576) (m := 1) (ws2 := [.inr (2, [.null]), ia 576 (fun _ => 0)]) dX2_init_8 (by decide) (by decide) (by decide) rfl (by simp only [pRm]; omega) (by simp only [pRm]; omega) rfl ?_
  refine i_putF (j := 0) (ws2 := [.inr (2, [.ref (h0.length + 1)]), ia 576 (fun _ => 0)]) dX2_init_10 f_X2_11 rfl rfl (inT 226 (by decide +kernel) rfl) rfl (Nat.le_of_ble_eq_true rfl) (fun _ => rfl) (fun _ => rfl) rfl ?_
  exact w_vret dX2_init_13 rfl rfl (by simp only [List.length_append]; rfl) (Nat.le_of_ble_eq_true rfl)
set_option maxRecDepth 100000 in
set_option maxHeartbeats 4000000 in
theorem pm_X3_init {l : Launch} {D : va_G} {h0 : PH} {q : Nat} (hq : h0.length = q) : PM l D YX3_init 1 [.ref q] (h0 ++ [.inr (3, [.null, .int 0])]) 1 60 none (h0 ++ [.inr (3, [.ref (q + 1), .int 0]), ia 60 (fun _ => 0)]) := by
  subst hq
  refine pm_of2 (n0 := h0.length + 1) kb_YX3_init (by rw [List.length_append]; rfl) [some (.ref (h0.length + 0))] (fun _ => rfl) (fun _ => (Nat.le_of_ble_eq_true rfl)) ?_
  refine w_aload_n dX3_init_0 rfl ?_
  refine w_objInit dX3_init_1 o_X3_3 (Nat.le_of_ble_eq_true rfl) (Nat.le_of_ble_eq_true rfl) (Nat.le_of_ble_eq_true rfl) ?_
  refine w_aload_n dX3_init_4 rfl ?_
  refine w_bipush (v := 60) dX3_init_5 (by decide) ?_
  refine i_newI (N := 60) (m := 1) (ws2 := [.inr (3, [.null, .int 0]), ia 60 (fun _ => 0)]) dX3_init_7 (by decide) (by decide) (by decide) rfl (by simp only [pRm]; omega) (by simp only [pRm]; omega) rfl ?_
  refine i_putF (j := 0) (ws2 := [.inr (3, [.ref (h0.length + 1), .int 0]), ia 60 (fun _ => 0)]) dX3_init_9 f_X3_9 rfl rfl (inT 149 (by decide +kernel) rfl) rfl (Nat.le_of_ble_eq_true rfl) (fun _ => rfl) (fun _ => rfl) rfl ?_
  refine w_aload_n dX3_init_12 rfl ?_
  refine w_iconst (v := 0) dX3_init_13 (by decide) ?_
  refine i_put (j := 0) (ws2 := [.inr (3, [.ref (h0.length + 1), .int 0]), ia 60 (fun _ => 0)]) dX3_init_14 f_X3_15 rfl (Nat.le_of_ble_eq_true rfl) (fun _ => rfl) (fun _ => rfl) rfl ?_
  exact w_vret dX3_init_17 rfl rfl (by simp only [List.length_append]; rfl) (Nat.le_of_ble_eq_true rfl)
set_option maxRecDepth 100000 in
set_option maxHeartbeats 4000000 in
theorem pm_X5_init {l : Launch} {D : va_G} {h0 : PH} {q : Nat} (hq : h0.length = q) : PM l D YX5_init 1 [.ref q] (h0 ++ [.inr (5, [.int 0, .int 0, .int 0, .int 0, .null, .null, .null, .null, .null, .null, .null, .null])]) 8 114 none (h0 ++ wc q w0) := by
  subst hq
  refine pm_of2 (n0 := h0.length + 1) kb_YX5_init (by rw [List.length_append]; rfl) [some (.ref (h0.length + 0)), none] (fun _ => rfl) (fun _ => (Nat.le_of_ble_eq_true rfl)) ?_
  have loop2 : ∀ (k i : Nat), i + k = 6 → Wp l D YX5_init (pRm 1 8 114) (h0.length + 1) (fun _ _ _ => True) (mE D (h0.length + 1) 8 114 none (h0 ++ wc h0.length w0)) 112 [some (.ref (h0.length + 0)), some (.int (nI i))] [] (h0 ++ (wc h0.length (0, 0, 0, 0, fun _ => 0, fun _ => 0, was0 8, fun _ => 0, fun _ => 0, hit0 i, fun _ => 0, fun _ => 0))) 114 := by
    intro k
    induction k with
    | zero =>
      intro i hi
      refine w_iload_n dX5_init_112 rfl ?_
      refine w_bipush (v := 6) dX5_init_113 (by decide) ?_
      refine w_icmp_ge_t (tgt := 131) dX5_init_115 (by decide) (lp_x hi (by decide) rfl) ?_
      have hi : i = 6 := by omega
      subst hi
      exact w_vret dX5_init_131 rfl rfl (by simp only [List.length_append]; rfl) (Nat.le_of_ble_eq_true rfl)
    | succ k ih =>
      intro i hi
      refine w_iload_n dX5_init_112 rfl ?_
      refine w_bipush (v := 6) dX5_init_113 (by decide) ?_
      refine w_icmp_ge_f dX5_init_115 ⟨131, by decide⟩ (lp_g hi (by decide) rfl) ?_
      refine w_aload_n dX5_init_118 rfl ?_
      refine w_get dX5_init_119 f_X5_40 (app_at (k := 0) rfl) rfl ?_
      refine w_iload_n dX5_init_122 rfl ?_
      refine w_iconst (v := 1) dX5_init_123 (by decide) ?_
      refine i_ast (j := 6) (ws2 := (wc h0.length (0, 0, 0, 0, fun _ => 0, fun _ => 0, was0 8, fun _ => 0, fun _ => 0, hit0 (i + 1), fun _ => 0, fun _ => 0))) dX5_init_124 rfl (vin_8 hi (by decide)) rfl ?_
      refine w_iinc_1 (v := 1) dX5_init_125 (by decide) (Nat.le_of_ble_eq_true rfl) rfl ?_
      refine w_goto (tgt := 112) dX5_init_128 (by decide) ?_
      exact w_loc_1 (nI_1 i) (ih (i + 1) (by omega))
  have loop1 : ∀ (k i : Nat), i + k = 8 → Wp l D YX5_init (pRm 1 8 114) (h0.length + 1) (fun _ _ _ => True) (mE D (h0.length + 1) 8 114 none (h0 ++ wc h0.length w0)) 90 [some (.ref (h0.length + 0)), some (.int (nI i))] [] (h0 ++ (wc h0.length (0, 0, 0, 0, fun _ => 0, fun _ => 0, was0 i, fun _ => 0, fun _ => 0, hit0 0, fun _ => 0, fun _ => 0))) 114 := by
    intro k
    induction k with
    | zero =>
      intro i hi
      refine w_iload_n dX5_init_90 rfl ?_
      refine w_bipush (v := 8) dX5_init_91 (by decide) ?_
      refine w_icmp_ge_t (tgt := 110) dX5_init_93 (by decide) (lp_x hi (by decide) rfl) ?_
      have hi : i = 8 := by omega
      subst hi
      refine w_iconst (v := 0) dX5_init_110 (by decide) ?_
      refine w_istore_1 dX5_init_111 (Nat.le_of_ble_eq_true rfl) rfl ?_
      exact loop2 6 0 rfl
    | succ k ih =>
      intro i hi
      refine w_iload_n dX5_init_90 rfl ?_
      refine w_bipush (v := 8) dX5_init_91 (by decide) ?_
      refine w_icmp_ge_f dX5_init_93 ⟨110, by decide⟩ (lp_g hi (by decide) rfl) ?_
      refine w_aload_n dX5_init_96 rfl ?_
      refine w_get dX5_init_97 f_X5_31 (app_at (k := 0) rfl) rfl ?_
      refine w_iload_n dX5_init_100 rfl ?_
      refine w_bipush (v := (-6)) dX5_init_101 (by decide) ?_
      refine i_ast (j := 3) (ws2 := (wc h0.length (0, 0, 0, 0, fun _ => 0, fun _ => 0, was0 (i + 1), fun _ => 0, fun _ => 0, hit0 0, fun _ => 0, fun _ => 0))) dX5_init_103 rfl (vin_8 hi (by decide)) rfl ?_
      refine w_iinc_1 (v := 1) dX5_init_104 (by decide) (Nat.le_of_ble_eq_true rfl) rfl ?_
      refine w_goto (tgt := 90) dX5_init_107 (by decide) ?_
      exact w_loc_1 (nI_1 i) (ih (i + 1) (by omega))
  refine w_aload_n dX5_init_0 rfl ?_
  refine w_objInit dX5_init_1 o_X5_3 (Nat.le_of_ble_eq_true rfl) (Nat.le_of_ble_eq_true rfl) (Nat.le_of_ble_eq_true rfl) ?_
  refine w_aload_n dX5_init_4 rfl ?_
  refine w_iconst (v := 0) dX5_init_5 (by decide) ?_
  refine i_put (j := 0) (ws2 := [.inr (5, [.int 0, .int 0, .int 0, .int 0, .null, .null, .null, .null, .null, .null, .null, .null])]) dX5_init_6 f_X5_9 rfl (Nat.le_of_ble_eq_true rfl) (fun _ => rfl) (fun _ => rfl) rfl ?_
  refine w_aload_n dX5_init_9 rfl ?_
  refine w_iconst (v := 0) dX5_init_10 (by decide) ?_
  refine i_put (j := 0) (ws2 := [.inr (5, [.int 0, .int 0, .int 0, .int 0, .null, .null, .null, .null, .null, .null, .null, .null])]) dX5_init_11 f_X5_15 rfl (Nat.le_of_ble_eq_true rfl) (fun _ => rfl) (fun _ => rfl) rfl ?_
  refine w_aload_n dX5_init_14 rfl ?_
  refine w_iconst (v := 0) dX5_init_15 (by decide) ?_
  refine i_put (j := 0) (ws2 := [.inr (5, [.int 0, .int 0, .int 0, .int 0, .null, .null, .null, .null, .null, .null, .null, .null])]) dX5_init_16 f_X5_18 rfl (Nat.le_of_ble_eq_true rfl) (fun _ => rfl) (fun _ => rfl) rfl ?_
  refine w_aload_n dX5_init_19 rfl ?_
  refine w_iconst (v := 0) dX5_init_20 (by decide) ?_
  refine i_put (j := 0) (ws2 := [.inr (5, [.int 0, .int 0, .int 0, .int 0, .null, .null, .null, .null, .null, .null, .null, .null])]) dX5_init_21 f_X5_21 rfl (Nat.le_of_ble_eq_true rfl) (fun _ => rfl) (fun _ => rfl) rfl ?_
  refine w_aload_n dX5_init_24 rfl ?_
  refine w_bipush (v := 8) dX5_init_25 (by decide) ?_
  refine i_newI (N := 8) (m := 1) (ws2 := [.inr (5, [.int 0, .int 0, .int 0, .int 0, .null, .null, .null, .null, .null, .null, .null, .null]), ia 8 (fun _ => 0)]) dX5_init_27 (by decide) (by decide) (by decide) rfl (by simp only [pRm]; omega) (by simp only [pRm]; omega) rfl ?_
  refine i_putF (j := 0) (ws2 := [.inr (5, [.int 0, .int 0, .int 0, .int 0, .ref (h0.length + 1), .null, .null, .null, .null, .null, .null, .null]), ia 8 (fun _ => 0)]) dX5_init_29 f_X5_24 rfl rfl (inT 98 (by decide +kernel) rfl) rfl (Nat.le_of_ble_eq_true rfl) (fun _ => rfl) (fun _ => rfl) rfl ?_
  refine w_aload_n dX5_init_32 rfl ?_
  refine w_bipush (v := 8) dX5_init_33 (by decide) ?_
  refine i_newI (N := 8) (m := 2) (ws2 := [.inr (5, [.int 0, .int 0, .int 0, .int 0, .ref (h0.length + 1), .null, .null, .null, .null, .null, .null, .null]), ia 8 (fun _ => 0), ia 8 (fun _ => 0)]) dX5_init_35 (by decide) (by decide) (by decide) rfl (by simp only [pRm]; omega) (by simp only [pRm]; omega) rfl ?_
  refine i_putF (j := 0) (ws2 := [.inr (5, [.int 0, .int 0, .int 0, .int 0, .ref (h0.length + 1), .ref (h0.length + 2), .null, .null, .null, .null, .null, .null]), ia 8 (fun _ => 0), ia 8 (fun _ => 0)]) dX5_init_37 f_X5_28 rfl rfl (inT 101 (by decide +kernel) rfl) rfl (Nat.le_of_ble_eq_true rfl) (fun _ => rfl) (fun _ => rfl) rfl ?_
  refine w_aload_n dX5_init_40 rfl ?_
  refine w_bipush (v := 8) dX5_init_41 (by decide) ?_
  refine i_newI (N := 8) (m := 3) (ws2 := [.inr (5, [.int 0, .int 0, .int 0, .int 0, .ref (h0.length + 1), .ref (h0.length + 2), .null, .null, .null, .null, .null, .null]), ia 8 (fun _ => 0), ia 8 (fun _ => 0), ia 8 (fun _ => 0)]) dX5_init_43 (by decide) (by decide) (by decide) rfl (by simp only [pRm]; omega) (by simp only [pRm]; omega) rfl ?_
  refine i_putF (j := 0) (ws2 := [.inr (5, [.int 0, .int 0, .int 0, .int 0, .ref (h0.length + 1), .ref (h0.length + 2), .ref (h0.length + 3), .null, .null, .null, .null, .null]), ia 8 (fun _ => 0), ia 8 (fun _ => 0), ia 8 (fun _ => 0)]) dX5_init_45 f_X5_31 rfl rfl (inT 103 (by decide +kernel) rfl) rfl (Nat.le_of_ble_eq_true rfl) (fun _ => rfl) (fun _ => rfl) rfl ?_
  refine w_aload_n dX5_init_48 rfl ?_
  refine w_bipush (v := 64) dX5_init_49 (by decide) ?_
  refine i_newI (N := 64) (m := 4) (ws2 := [.inr (5, [.int 0, .int 0, .int 0, .int 0, .ref (h0.length + 1), .ref (h0.length + 2), .ref (h0.length + 3), .null, .null, .null, .null, .null]), ia 8 (fun _ => 0), ia 8 (fun _ => 0), ia 8 (fun _ => 0), ia 64 (fun _ => 0)]) dX5_init_51 (by decide) (by decide) (by decide) rfl (by simp only [pRm]; omega) (by simp only [pRm]; omega) rfl ?_
  refine i_putF (j := 0) (ws2 := [.inr (5, [.int 0, .int 0, .int 0, .int 0, .ref (h0.length + 1), .ref (h0.length + 2), .ref (h0.length + 3), .ref (h0.length + 4), .null, .null, .null, .null]), ia 8 (fun _ => 0), ia 8 (fun _ => 0), ia 8 (fun _ => 0), ia 64 (fun _ => 0)]) dX5_init_53 f_X5_34 rfl rfl (inT 105 (by decide +kernel) rfl) rfl (Nat.le_of_ble_eq_true rfl) (fun _ => rfl) (fun _ => rfl) rfl ?_
  refine w_aload_n dX5_init_56 rfl ?_
  refine w_bipush (v := 6) dX5_init_57 (by decide) ?_
  refine i_newI (N := 6) (m := 5) (ws2 := [.inr (5, [.int 0, .int 0, .int 0, .int 0, .ref (h0.length + 1), .ref (h0.length + 2), .ref (h0.length + 3), .ref (h0.length + 4), .null, .null, .null, .null]), ia 8 (fun _ => 0), ia 8 (fun _ => 0), ia 8 (fun _ => 0), ia 64 (fun _ => 0), ia 6 (fun _ => 0)]) dX5_init_59 (by decide) (by decide) (by decide) rfl (by simp only [pRm]; omega) (by simp only [pRm]; omega) rfl ?_
  refine i_putF (j := 0) (ws2 := [.inr (5, [.int 0, .int 0, .int 0, .int 0, .ref (h0.length + 1), .ref (h0.length + 2), .ref (h0.length + 3), .ref (h0.length + 4), .ref (h0.length + 5), .null, .null, .null]), ia 8 (fun _ => 0), ia 8 (fun _ => 0), ia 8 (fun _ => 0), ia 64 (fun _ => 0), ia 6 (fun _ => 0)]) dX5_init_61 f_X5_37 rfl rfl (inT 107 (by decide +kernel) rfl) rfl (Nat.le_of_ble_eq_true rfl) (fun _ => rfl) (fun _ => rfl) rfl ?_
  refine w_aload_n dX5_init_64 rfl ?_
  refine w_bipush (v := 6) dX5_init_65 (by decide) ?_
  refine i_newI (N := 6) (m := 6) (ws2 := [.inr (5, [.int 0, .int 0, .int 0, .int 0, .ref (h0.length + 1), .ref (h0.length + 2), .ref (h0.length + 3), .ref (h0.length + 4), .ref (h0.length + 5), .null, .null, .null]), ia 8 (fun _ => 0), ia 8 (fun _ => 0), ia 8 (fun _ => 0), ia 64 (fun _ => 0), ia 6 (fun _ => 0), ia 6 (fun _ => 0)]) dX5_init_67 (by decide) (by decide) (by decide) rfl (by simp only [pRm]; omega) (by simp only [pRm]; omega) rfl ?_
  refine i_putF (j := 0) (ws2 := [.inr (5, [.int 0, .int 0, .int 0, .int 0, .ref (h0.length + 1), .ref (h0.length + 2), .ref (h0.length + 3), .ref (h0.length + 4), .ref (h0.length + 5), .ref (h0.length + 6), .null, .null]), ia 8 (fun _ => 0), ia 8 (fun _ => 0), ia 8 (fun _ => 0), ia 64 (fun _ => 0), ia 6 (fun _ => 0), ia 6 (fun _ => 0)]) dX5_init_69 f_X5_40 rfl rfl (inT 109 (by decide +kernel) rfl) rfl (Nat.le_of_ble_eq_true rfl) (fun _ => rfl) (fun _ => rfl) rfl ?_
  refine w_aload_n dX5_init_72 rfl ?_
  refine w_bipush (v := 6) dX5_init_73 (by decide) ?_
  refine i_newI (N := 6) (m := 7) (ws2 := [.inr (5, [.int 0, .int 0, .int 0, .int 0, .ref (h0.length + 1), .ref (h0.length + 2), .ref (h0.length + 3), .ref (h0.length + 4), .ref (h0.length + 5), .ref (h0.length + 6), .null, .null]), ia 8 (fun _ => 0), ia 8 (fun _ => 0), ia 8 (fun _ => 0), ia 64 (fun _ => 0), ia 6 (fun _ => 0), ia 6 (fun _ => 0), ia 6 (fun _ => 0)]) dX5_init_75 (by decide) (by decide) (by decide) rfl (by simp only [pRm]; omega) (by simp only [pRm]; omega) rfl ?_
  refine i_putF (j := 0) (ws2 := [.inr (5, [.int 0, .int 0, .int 0, .int 0, .ref (h0.length + 1), .ref (h0.length + 2), .ref (h0.length + 3), .ref (h0.length + 4), .ref (h0.length + 5), .ref (h0.length + 6), .ref (h0.length + 7), .null]), ia 8 (fun _ => 0), ia 8 (fun _ => 0), ia 8 (fun _ => 0), ia 64 (fun _ => 0), ia 6 (fun _ => 0), ia 6 (fun _ => 0), ia 6 (fun _ => 0)]) dX5_init_77 f_X5_43 rfl rfl (inT 111 (by decide +kernel) rfl) rfl (Nat.le_of_ble_eq_true rfl) (fun _ => rfl) (fun _ => rfl) rfl ?_
  refine w_aload_n dX5_init_80 rfl ?_
  refine w_bipush (v := 8) dX5_init_81 (by decide) ?_
  refine i_newI (N := 8) (m := 8) (ws2 := [.inr (5, [.int 0, .int 0, .int 0, .int 0, .ref (h0.length + 1), .ref (h0.length + 2), .ref (h0.length + 3), .ref (h0.length + 4), .ref (h0.length + 5), .ref (h0.length + 6), .ref (h0.length + 7), .null]), ia 8 (fun _ => 0), ia 8 (fun _ => 0), ia 8 (fun _ => 0), ia 64 (fun _ => 0), ia 6 (fun _ => 0), ia 6 (fun _ => 0), ia 6 (fun _ => 0), ia 8 (fun _ => 0)]) dX5_init_83 (by decide) (by decide) (by decide) rfl (by simp only [pRm]; omega) (by simp only [pRm]; omega) rfl ?_
  refine i_putF (j := 0) (ws2 := [.inr (5, [.int 0, .int 0, .int 0, .int 0, .ref (h0.length + 1), .ref (h0.length + 2), .ref (h0.length + 3), .ref (h0.length + 4), .ref (h0.length + 5), .ref (h0.length + 6), .ref (h0.length + 7), .ref (h0.length + 8)]), ia 8 (fun _ => 0), ia 8 (fun _ => 0), ia 8 (fun _ => 0), ia 64 (fun _ => 0), ia 6 (fun _ => 0), ia 6 (fun _ => 0), ia 6 (fun _ => 0), ia 8 (fun _ => 0)]) dX5_init_85 f_X5_46 rfl rfl (inT 114 (by decide +kernel) rfl) rfl (Nat.le_of_ble_eq_true rfl) (fun _ => rfl) (fun _ => rfl) rfl ?_
  refine w_iconst (v := 0) dX5_init_88 (by decide) ?_
  refine w_istore_1 dX5_init_89 (Nat.le_of_ble_eq_true rfl) rfl ?_
  exact loop1 8 0 rfl

set_option maxRecDepth 100000 in
set_option maxHeartbeats 4000000 in
theorem pm_X4_init {l : Launch} {D : va_G} {h0 : PH} {q : Nat} (hq : h0.length = q) : PM l D YX4_init 2 [.ref q] (h0 ++ [.inr (4, [.null, .null, .int 0, .int 0, .int 0, .int 0, .int 0])]) 10 130 none (h0 ++ ([.inr (4, [.ref (q + 1), .ref (q + 10), .int 0, .int (-6), .int (-6), .int 0, .int (-6)])] ++ (wc (q + 1) w0 ++ [.inr (0, [.int 0, .int 0, .int 0, .int 0])]))) := by
  subst hq
  refine pm_of2 (n0 := h0.length + 1) kb_YX4_init (by rw [List.length_append]; rfl) [some (.ref (h0.length + 0))] (fun _ => rfl) (fun _ => (Nat.le_of_ble_eq_true rfl)) ?_
  refine w_aload_n dX4_init_0 rfl ?_
  refine w_objInit dX4_init_1 o_X4_3 (Nat.le_of_ble_eq_true rfl) (Nat.le_of_ble_eq_true rfl) (Nat.le_of_ble_eq_true rfl) ?_
  refine w_aload_n dX4_init_4 rfl ?_
  refine i_new (m := 1) dX4_init_5 n_X4_9 (fun _ => rfl) rfl (by simp only [pRm]; omega) (by simp only [pRm]; omega) ?_
  refine w_dup dX4_init_8 rfl ?_
  refine i_call (mc := 8) (ms := 114) (ws2 := [.inr (4, [.null, .null, .int 0, .int 0, .int 0, .int 0, .int 0]), .inr (5, [.int 0, .int 0, .int 0, .int 0, .ref (h0.length + 2), .ref (h0.length + 3), .ref (h0.length + 4), .ref (h0.length + 5), .ref (h0.length + 6), .ref (h0.length + 7), .ref (h0.length + 8), .ref (h0.length + 9)]), ia 8 (fun _ => 0), ia 8 (fun _ => 0), ia 8 (was0 8), ia 64 (fun _ => 0), ia 6 (fun _ => 0), ia 6 (hit0 6), ia 6 (fun _ => 0), ia 8 (fun _ => 0)]) dX4_init_9 k_X4_11 (pm_X5_init (by rw [List.length_append]; rfl)) (Nat.le_of_ble_eq_true rfl) (Nat.le_of_ble_eq_true rfl) (Nat.le_of_ble_eq_true rfl) rfl (by simp only [pRm]; omega) (by simp only [pRm]; omega) rfl ?_
  refine i_putF (j := 0) (ws2 := [.inr (4, [.ref (h0.length + 1), .null, .int 0, .int 0, .int 0, .int 0, .int 0]), .inr (5, [.int 0, .int 0, .int 0, .int 0, .ref (h0.length + 2), .ref (h0.length + 3), .ref (h0.length + 4), .ref (h0.length + 5), .ref (h0.length + 6), .ref (h0.length + 7), .ref (h0.length + 8), .ref (h0.length + 9)]), ia 8 (fun _ => 0), ia 8 (fun _ => 0), ia 8 (was0 8), ia 64 (fun _ => 0), ia 6 (fun _ => 0), ia 6 (hit0 6), ia 6 (fun _ => 0), ia 8 (fun _ => 0)]) dX4_init_12 f_X4_12 rfl rfl (inT 192 (by decide +kernel) rfl) rfl (Nat.le_of_ble_eq_true rfl) (fun _ => rfl) (fun _ => rfl) rfl ?_
  refine w_aload_n dX4_init_15 rfl ?_
  refine i_new (m := 10) dX4_init_16 n_X4_18 (fun _ => rfl) rfl (by simp only [pRm]; omega) (by simp only [pRm]; omega) ?_
  refine w_dup dX4_init_19 rfl ?_
  refine i_call (mc := 0) (ms := 0) (ws2 := [.inr (4, [.ref (h0.length + 1), .null, .int 0, .int 0, .int 0, .int 0, .int 0]), .inr (5, [.int 0, .int 0, .int 0, .int 0, .ref (h0.length + 2), .ref (h0.length + 3), .ref (h0.length + 4), .ref (h0.length + 5), .ref (h0.length + 6), .ref (h0.length + 7), .ref (h0.length + 8), .ref (h0.length + 9)]), ia 8 (fun _ => 0), ia 8 (fun _ => 0), ia 8 (was0 8), ia 64 (fun _ => 0), ia 6 (fun _ => 0), ia 6 (hit0 6), ia 6 (fun _ => 0), ia 8 (fun _ => 0), .inr (0, [.int 0, .int 0, .int 0, .int 0])]) dX4_init_20 k_X4_20 (pm_X0_init (by rw [List.length_append]; rfl)) (Nat.le_of_ble_eq_true rfl) (Nat.le_of_ble_eq_true rfl) (Nat.le_of_ble_eq_true rfl) rfl (by simp only [pRm]; omega) (by simp only [pRm]; omega) rfl ?_
  refine i_putF (j := 0) (ws2 := [.inr (4, [.ref (h0.length + 1), .ref (h0.length + 10), .int 0, .int 0, .int 0, .int 0, .int 0]), .inr (5, [.int 0, .int 0, .int 0, .int 0, .ref (h0.length + 2), .ref (h0.length + 3), .ref (h0.length + 4), .ref (h0.length + 5), .ref (h0.length + 6), .ref (h0.length + 7), .ref (h0.length + 8), .ref (h0.length + 9)]), ia 8 (fun _ => 0), ia 8 (fun _ => 0), ia 8 (was0 8), ia 64 (fun _ => 0), ia 6 (fun _ => 0), ia 6 (hit0 6), ia 6 (fun _ => 0), ia 8 (fun _ => 0), .inr (0, [.int 0, .int 0, .int 0, .int 0])]) dX4_init_23 f_X4_21 rfl rfl (inT 194 (by decide +kernel) rfl) rfl (Nat.le_of_ble_eq_true rfl) (fun _ => rfl) (fun _ => rfl) rfl ?_
  refine w_aload_n dX4_init_26 rfl ?_
  refine w_iconst (v := 0) dX4_init_27 (by decide) ?_
  refine i_put (j := 0) (ws2 := [.inr (4, [.ref (h0.length + 1), .ref (h0.length + 10), .int 0, .int 0, .int 0, .int 0, .int 0]), .inr (5, [.int 0, .int 0, .int 0, .int 0, .ref (h0.length + 2), .ref (h0.length + 3), .ref (h0.length + 4), .ref (h0.length + 5), .ref (h0.length + 6), .ref (h0.length + 7), .ref (h0.length + 8), .ref (h0.length + 9)]), ia 8 (fun _ => 0), ia 8 (fun _ => 0), ia 8 (was0 8), ia 64 (fun _ => 0), ia 6 (fun _ => 0), ia 6 (hit0 6), ia 6 (fun _ => 0), ia 8 (fun _ => 0), .inr (0, [.int 0, .int 0, .int 0, .int 0])]) dX4_init_28 f_X4_25 rfl (Nat.le_of_ble_eq_true rfl) (fun _ => rfl) (fun _ => rfl) rfl ?_
  refine w_aload_n dX4_init_31 rfl ?_
  refine w_bipush (v := (-6)) dX4_init_32 (by decide) ?_
  refine i_put (j := 0) (ws2 := [.inr (4, [.ref (h0.length + 1), .ref (h0.length + 10), .int 0, .int (-6), .int 0, .int 0, .int 0]), .inr (5, [.int 0, .int 0, .int 0, .int 0, .ref (h0.length + 2), .ref (h0.length + 3), .ref (h0.length + 4), .ref (h0.length + 5), .ref (h0.length + 6), .ref (h0.length + 7), .ref (h0.length + 8), .ref (h0.length + 9)]), ia 8 (fun _ => 0), ia 8 (fun _ => 0), ia 8 (was0 8), ia 64 (fun _ => 0), ia 6 (fun _ => 0), ia 6 (hit0 6), ia 6 (fun _ => 0), ia 8 (fun _ => 0), .inr (0, [.int 0, .int 0, .int 0, .int 0])]) dX4_init_34 f_X4_29 rfl (Nat.le_of_ble_eq_true rfl) (fun _ => rfl) (fun _ => rfl) rfl ?_
  refine w_aload_n dX4_init_37 rfl ?_
  refine w_bipush (v := (-6)) dX4_init_38 (by decide) ?_
  refine i_put (j := 0) (ws2 := [.inr (4, [.ref (h0.length + 1), .ref (h0.length + 10), .int 0, .int (-6), .int (-6), .int 0, .int 0]), .inr (5, [.int 0, .int 0, .int 0, .int 0, .ref (h0.length + 2), .ref (h0.length + 3), .ref (h0.length + 4), .ref (h0.length + 5), .ref (h0.length + 6), .ref (h0.length + 7), .ref (h0.length + 8), .ref (h0.length + 9)]), ia 8 (fun _ => 0), ia 8 (fun _ => 0), ia 8 (was0 8), ia 64 (fun _ => 0), ia 6 (fun _ => 0), ia 6 (hit0 6), ia 6 (fun _ => 0), ia 8 (fun _ => 0), .inr (0, [.int 0, .int 0, .int 0, .int 0])]) dX4_init_40 f_X4_32 rfl (Nat.le_of_ble_eq_true rfl) (fun _ => rfl) (fun _ => rfl) rfl ?_
  refine w_aload_n dX4_init_43 rfl ?_
  refine w_iconst (v := 0) dX4_init_44 (by decide) ?_
  refine i_put (j := 0) (ws2 := [.inr (4, [.ref (h0.length + 1), .ref (h0.length + 10), .int 0, .int (-6), .int (-6), .int 0, .int 0]), .inr (5, [.int 0, .int 0, .int 0, .int 0, .ref (h0.length + 2), .ref (h0.length + 3), .ref (h0.length + 4), .ref (h0.length + 5), .ref (h0.length + 6), .ref (h0.length + 7), .ref (h0.length + 8), .ref (h0.length + 9)]), ia 8 (fun _ => 0), ia 8 (fun _ => 0), ia 8 (was0 8), ia 64 (fun _ => 0), ia 6 (fun _ => 0), ia 6 (hit0 6), ia 6 (fun _ => 0), ia 8 (fun _ => 0), .inr (0, [.int 0, .int 0, .int 0, .int 0])]) dX4_init_45 f_X4_35 rfl (Nat.le_of_ble_eq_true rfl) (fun _ => rfl) (fun _ => rfl) rfl ?_
  refine w_aload_n dX4_init_48 rfl ?_
  refine w_bipush (v := (-6)) dX4_init_49 (by decide) ?_
  refine i_put (j := 0) (ws2 := [.inr (4, [.ref (h0.length + 1), .ref (h0.length + 10), .int 0, .int (-6), .int (-6), .int 0, .int (-6)]), .inr (5, [.int 0, .int 0, .int 0, .int 0, .ref (h0.length + 2), .ref (h0.length + 3), .ref (h0.length + 4), .ref (h0.length + 5), .ref (h0.length + 6), .ref (h0.length + 7), .ref (h0.length + 8), .ref (h0.length + 9)]), ia 8 (fun _ => 0), ia 8 (fun _ => 0), ia 8 (was0 8), ia 64 (fun _ => 0), ia 6 (fun _ => 0), ia 6 (hit0 6), ia 6 (fun _ => 0), ia 8 (fun _ => 0), .inr (0, [.int 0, .int 0, .int 0, .int 0])]) dX4_init_51 f_X4_38 rfl (Nat.le_of_ble_eq_true rfl) (fun _ => rfl) (fun _ => rfl) rfl ?_
  exact w_vret dX4_init_54 rfl rfl (by simp only [List.length_append]; rfl) (Nat.le_of_ble_eq_true rfl)
set_option maxRecDepth 100000 in
set_option maxHeartbeats 4000000 in
theorem pm_X6_init {l : Launch} {D : va_G} : PM l D YX6_init 3 [.ref 0] [.inr (6, [.null, .null, .null, .null, .null, .null])] 27 914 none (XH w0 (fun _ => none) (fun _ => 0) 0 w0 0 (-6) (-6) 0 (-6) 0 0 0 0 (fun _ => 0) (fun _ => 0) 0 []) := by
  have key : ∀ h0 : PH, h0 = [] → PM l D YX6_init 3 [.ref h0.length] (h0 ++ [.inr (6, [.null, .null, .null, .null, .null, .null])]) 27 914 none (h0 ++ [.inr (6, [.ref (h0.length + 1), .ref (h0.length + 10), .ref (h0.length + 11), .ref (h0.length + 13), .ref (h0.length + 24), .ref (h0.length + 26)]), .inr (5, [.int 0, .int 0, .int 0, .int 0, .ref (h0.length + 2), .ref (h0.length + 3), .ref (h0.length + 4), .ref (h0.length + 5), .ref (h0.length + 6), .ref (h0.length + 7), .ref (h0.length + 8), .ref (h0.length + 9)]), ia 8 (fun _ => 0), ia 8 (fun _ => 0), ia 8 (was0 8), ia 64 (fun _ => 0), ia 6 (fun _ => 0), ia 6 (hit0 6), ia 6 (fun _ => 0), ia 8 (fun _ => 0), qa 2 (fun _ => none), .inr (3, [.ref (h0.length + 12), .int 0]), ia 60 (fun _ => 0), .inr (4, [.ref (h0.length + 14), .ref (h0.length + 23), .int 0, .int (-6), .int (-6), .int 0, .int (-6)]), .inr (5, [.int 0, .int 0, .int 0, .int 0, .ref (h0.length + 15), .ref (h0.length + 16), .ref (h0.length + 17), .ref (h0.length + 18), .ref (h0.length + 19), .ref (h0.length + 20), .ref (h0.length + 21), .ref (h0.length + 22)]), ia 8 (fun _ => 0), ia 8 (fun _ => 0), ia 8 (was0 8), ia 64 (fun _ => 0), ia 6 (fun _ => 0), ia 6 (hit0 6), ia 6 (fun _ => 0), ia 8 (fun _ => 0), .inr (0, [.int 0, .int 0, .int 0, .int 0]), .inr (2, [.ref (h0.length + 25)]), ia 576 (fun _ => 0), .inr (1, [.ref (h0.length + 27), .int 0]), ia 8 (fun _ => 0)]) := by
    intro h0 _
    refine pm_of2 (n0 := h0.length + 1) kb_YX6_init (by rw [List.length_append]; rfl) [some (.ref (h0.length + 0))] (fun _ => rfl) (fun _ => (Nat.le_of_ble_eq_true rfl)) ?_
    refine w_aload_n dX6_init_0 rfl ?_
    refine w_objInit dX6_init_1 o_X6_1 (Nat.le_of_ble_eq_true rfl) (Nat.le_of_ble_eq_true rfl) (Nat.le_of_ble_eq_true rfl) ?_
    refine w_aload_n dX6_init_4 rfl ?_
    refine i_new (m := 1) dX6_init_5 n_X6_7 (fun _ => rfl) rfl (by simp only [pRm]; omega) (by simp only [pRm]; omega) ?_
    refine w_dup dX6_init_8 rfl ?_
    refine i_call (mc := 8) (ms := 114) (ws2 := [.inr (6, [.null, .null, .null, .null, .null, .null]), .inr (5, [.int 0, .int 0, .int 0, .int 0, .ref (h0.length + 2), .ref (h0.length + 3), .ref (h0.length + 4), .ref (h0.length + 5), .ref (h0.length + 6), .ref (h0.length + 7), .ref (h0.length + 8), .ref (h0.length + 9)]), ia 8 (fun _ => 0), ia 8 (fun _ => 0), ia 8 (was0 8), ia 64 (fun _ => 0), ia 6 (fun _ => 0), ia 6 (hit0 6), ia 6 (fun _ => 0), ia 8 (fun _ => 0)]) dX6_init_9 k_X6_9 (pm_X5_init (by rw [List.length_append]; rfl)) (Nat.le_of_ble_eq_true rfl) (Nat.le_of_ble_eq_true rfl) (Nat.le_of_ble_eq_true rfl) rfl (by simp only [pRm]; omega) (by simp only [pRm]; omega) rfl ?_
    refine i_putF (j := 0) (ws2 := [.inr (6, [.ref (h0.length + 1), .null, .null, .null, .null, .null]), .inr (5, [.int 0, .int 0, .int 0, .int 0, .ref (h0.length + 2), .ref (h0.length + 3), .ref (h0.length + 4), .ref (h0.length + 5), .ref (h0.length + 6), .ref (h0.length + 7), .ref (h0.length + 8), .ref (h0.length + 9)]), ia 8 (fun _ => 0), ia 8 (fun _ => 0), ia 8 (was0 8), ia 64 (fun _ => 0), ia 6 (fun _ => 0), ia 6 (hit0 6), ia 6 (fun _ => 0), ia 8 (fun _ => 0)]) dX6_init_12 f_X6_10 rfl rfl (inT 243 (by decide +kernel) rfl) rfl (Nat.le_of_ble_eq_true rfl) (fun _ => rfl) (fun _ => rfl) rfl ?_
    refine w_aload_n dX6_init_15 rfl ?_
    refine w_iconst (v := 2) dX6_init_16 (by decide) ?_
    refine i_newQ (N := 2) (m := 10) (ws2 := [.inr (6, [.ref (h0.length + 1), .null, .null, .null, .null, .null]), .inr (5, [.int 0, .int 0, .int 0, .int 0, .ref (h0.length + 2), .ref (h0.length + 3), .ref (h0.length + 4), .ref (h0.length + 5), .ref (h0.length + 6), .ref (h0.length + 7), .ref (h0.length + 8), .ref (h0.length + 9)]), ia 8 (fun _ => 0), ia 8 (fun _ => 0), ia 8 (was0 8), ia 64 (fun _ => 0), ia 6 (fun _ => 0), ia 6 (hit0 6), ia 6 (fun _ => 0), ia 8 (fun _ => 0), qa 2 (fun _ => none)]) dX6_init_17 cl_X6_7 (by decide) (by decide) (by decide) rfl (by simp only [pRm]; omega) (by simp only [pRm]; omega) rfl ?_
    refine i_putF (j := 0) (ws2 := [.inr (6, [.ref (h0.length + 1), .ref (h0.length + 10), .null, .null, .null, .null]), .inr (5, [.int 0, .int 0, .int 0, .int 0, .ref (h0.length + 2), .ref (h0.length + 3), .ref (h0.length + 4), .ref (h0.length + 5), .ref (h0.length + 6), .ref (h0.length + 7), .ref (h0.length + 8), .ref (h0.length + 9)]), ia 8 (fun _ => 0), ia 8 (fun _ => 0), ia 8 (was0 8), ia 64 (fun _ => 0), ia 6 (fun _ => 0), ia 6 (hit0 6), ia 6 (fun _ => 0), ia 8 (fun _ => 0), qa 2 (fun _ => none)]) dX6_init_20 f_X6_16 rfl rfl (inT 244 (by decide +kernel) rfl) rfl (Nat.le_of_ble_eq_true rfl) (fun _ => rfl) (fun _ => rfl) rfl ?_
    refine w_aload_n dX6_init_23 rfl ?_
    refine i_new (m := 11) dX6_init_24 n_X6_20 (fun _ => rfl) rfl (by simp only [pRm]; omega) (by simp only [pRm]; omega) ?_
    refine w_dup dX6_init_27 rfl ?_
    refine i_call (mc := 1) (ms := 60) (ws2 := [.inr (6, [.ref (h0.length + 1), .ref (h0.length + 10), .null, .null, .null, .null]), .inr (5, [.int 0, .int 0, .int 0, .int 0, .ref (h0.length + 2), .ref (h0.length + 3), .ref (h0.length + 4), .ref (h0.length + 5), .ref (h0.length + 6), .ref (h0.length + 7), .ref (h0.length + 8), .ref (h0.length + 9)]), ia 8 (fun _ => 0), ia 8 (fun _ => 0), ia 8 (was0 8), ia 64 (fun _ => 0), ia 6 (fun _ => 0), ia 6 (hit0 6), ia 6 (fun _ => 0), ia 8 (fun _ => 0), qa 2 (fun _ => none), .inr (3, [.ref (h0.length + 12), .int 0]), ia 60 (fun _ => 0)]) dX6_init_28 k_X6_22 (pm_X3_init (by rw [List.length_append]; rfl)) (Nat.le_of_ble_eq_true rfl) (Nat.le_of_ble_eq_true rfl) (Nat.le_of_ble_eq_true rfl) rfl (by simp only [pRm]; omega) (by simp only [pRm]; omega) rfl ?_
    refine i_putF (j := 0) (ws2 := [.inr (6, [.ref (h0.length + 1), .ref (h0.length + 10), .ref (h0.length + 11), .null, .null, .null]), .inr (5, [.int 0, .int 0, .int 0, .int 0, .ref (h0.length + 2), .ref (h0.length + 3), .ref (h0.length + 4), .ref (h0.length + 5), .ref (h0.length + 6), .ref (h0.length + 7), .ref (h0.length + 8), .ref (h0.length + 9)]), ia 8 (fun _ => 0), ia 8 (fun _ => 0), ia 8 (was0 8), ia 64 (fun _ => 0), ia 6 (fun _ => 0), ia 6 (hit0 6), ia 6 (fun _ => 0), ia 8 (fun _ => 0), qa 2 (fun _ => none), .inr (3, [.ref (h0.length + 12), .int 0]), ia 60 (fun _ => 0)]) dX6_init_31 f_X6_23 rfl rfl (inT 245 (by decide +kernel) rfl) rfl (Nat.le_of_ble_eq_true rfl) (fun _ => rfl) (fun _ => rfl) rfl ?_
    refine w_aload_n dX6_init_34 rfl ?_
    refine i_new (m := 13) dX6_init_35 n_X6_27 (fun _ => rfl) rfl (by simp only [pRm]; omega) (by simp only [pRm]; omega) ?_
    refine w_dup dX6_init_38 rfl ?_
    refine i_call (mc := 10) (ms := 130) (ws2 := [.inr (6, [.ref (h0.length + 1), .ref (h0.length + 10), .ref (h0.length + 11), .null, .null, .null]), .inr (5, [.int 0, .int 0, .int 0, .int 0, .ref (h0.length + 2), .ref (h0.length + 3), .ref (h0.length + 4), .ref (h0.length + 5), .ref (h0.length + 6), .ref (h0.length + 7), .ref (h0.length + 8), .ref (h0.length + 9)]), ia 8 (fun _ => 0), ia 8 (fun _ => 0), ia 8 (was0 8), ia 64 (fun _ => 0), ia 6 (fun _ => 0), ia 6 (hit0 6), ia 6 (fun _ => 0), ia 8 (fun _ => 0), qa 2 (fun _ => none), .inr (3, [.ref (h0.length + 12), .int 0]), ia 60 (fun _ => 0), .inr (4, [.ref (h0.length + 14), .ref (h0.length + 23), .int 0, .int (-6), .int (-6), .int 0, .int (-6)]), .inr (5, [.int 0, .int 0, .int 0, .int 0, .ref (h0.length + 15), .ref (h0.length + 16), .ref (h0.length + 17), .ref (h0.length + 18), .ref (h0.length + 19), .ref (h0.length + 20), .ref (h0.length + 21), .ref (h0.length + 22)]), ia 8 (fun _ => 0), ia 8 (fun _ => 0), ia 8 (was0 8), ia 64 (fun _ => 0), ia 6 (fun _ => 0), ia 6 (hit0 6), ia 6 (fun _ => 0), ia 8 (fun _ => 0), .inr (0, [.int 0, .int 0, .int 0, .int 0])]) dX6_init_39 k_X6_29 (pm_X4_init (by rw [List.length_append]; rfl)) (Nat.le_of_ble_eq_true rfl) (Nat.le_of_ble_eq_true rfl) (Nat.le_of_ble_eq_true rfl) rfl (by simp only [pRm]; omega) (by simp only [pRm]; omega) rfl ?_
    refine i_putF (j := 0) (ws2 := [.inr (6, [.ref (h0.length + 1), .ref (h0.length + 10), .ref (h0.length + 11), .ref (h0.length + 13), .null, .null]), .inr (5, [.int 0, .int 0, .int 0, .int 0, .ref (h0.length + 2), .ref (h0.length + 3), .ref (h0.length + 4), .ref (h0.length + 5), .ref (h0.length + 6), .ref (h0.length + 7), .ref (h0.length + 8), .ref (h0.length + 9)]), ia 8 (fun _ => 0), ia 8 (fun _ => 0), ia 8 (was0 8), ia 64 (fun _ => 0), ia 6 (fun _ => 0), ia 6 (hit0 6), ia 6 (fun _ => 0), ia 8 (fun _ => 0), qa 2 (fun _ => none), .inr (3, [.ref (h0.length + 12), .int 0]), ia 60 (fun _ => 0), .inr (4, [.ref (h0.length + 14), .ref (h0.length + 23), .int 0, .int (-6), .int (-6), .int 0, .int (-6)]), .inr (5, [.int 0, .int 0, .int 0, .int 0, .ref (h0.length + 15), .ref (h0.length + 16), .ref (h0.length + 17), .ref (h0.length + 18), .ref (h0.length + 19), .ref (h0.length + 20), .ref (h0.length + 21), .ref (h0.length + 22)]), ia 8 (fun _ => 0), ia 8 (fun _ => 0), ia 8 (was0 8), ia 64 (fun _ => 0), ia 6 (fun _ => 0), ia 6 (hit0 6), ia 6 (fun _ => 0), ia 8 (fun _ => 0), .inr (0, [.int 0, .int 0, .int 0, .int 0])]) dX6_init_42 f_X6_30 rfl rfl (inT 246 (by decide +kernel) rfl) rfl (Nat.le_of_ble_eq_true rfl) (fun _ => rfl) (fun _ => rfl) rfl ?_
    refine w_aload_n dX6_init_45 rfl ?_
    refine i_new (m := 24) dX6_init_46 n_X6_34 (fun _ => rfl) rfl (by simp only [pRm]; omega) (by simp only [pRm]; omega) ?_
    refine w_dup dX6_init_49 rfl ?_
    refine i_call (mc := 1) (ms := 576) (ws2 := [.inr (6, [.ref (h0.length + 1), .ref (h0.length + 10), .ref (h0.length + 11), .ref (h0.length + 13), .null, .null]), .inr (5, [.int 0, .int 0, .int 0, .int 0, .ref (h0.length + 2), .ref (h0.length + 3), .ref (h0.length + 4), .ref (h0.length + 5), .ref (h0.length + 6), .ref (h0.length + 7), .ref (h0.length + 8), .ref (h0.length + 9)]), ia 8 (fun _ => 0), ia 8 (fun _ => 0), ia 8 (was0 8), ia 64 (fun _ => 0), ia 6 (fun _ => 0), ia 6 (hit0 6), ia 6 (fun _ => 0), ia 8 (fun _ => 0), qa 2 (fun _ => none), .inr (3, [.ref (h0.length + 12), .int 0]), ia 60 (fun _ => 0), .inr (4, [.ref (h0.length + 14), .ref (h0.length + 23), .int 0, .int (-6), .int (-6), .int 0, .int (-6)]), .inr (5, [.int 0, .int 0, .int 0, .int 0, .ref (h0.length + 15), .ref (h0.length + 16), .ref (h0.length + 17), .ref (h0.length + 18), .ref (h0.length + 19), .ref (h0.length + 20), .ref (h0.length + 21), .ref (h0.length + 22)]), ia 8 (fun _ => 0), ia 8 (fun _ => 0), ia 8 (was0 8), ia 64 (fun _ => 0), ia 6 (fun _ => 0), ia 6 (hit0 6), ia 6 (fun _ => 0), ia 8 (fun _ => 0), .inr (0, [.int 0, .int 0, .int 0, .int 0]), .inr (2, [.ref (h0.length + 25)]), ia 576 (fun _ => 0)]) dX6_init_50 k_X6_36 (pm_X2_init (by rw [List.length_append]; rfl)) (Nat.le_of_ble_eq_true rfl) (Nat.le_of_ble_eq_true rfl) (Nat.le_of_ble_eq_true rfl) rfl (by simp only [pRm]; omega) (by simp only [pRm]; omega) rfl ?_
    refine i_putF (j := 0) (ws2 := [.inr (6, [.ref (h0.length + 1), .ref (h0.length + 10), .ref (h0.length + 11), .ref (h0.length + 13), .ref (h0.length + 24), .null]), .inr (5, [.int 0, .int 0, .int 0, .int 0, .ref (h0.length + 2), .ref (h0.length + 3), .ref (h0.length + 4), .ref (h0.length + 5), .ref (h0.length + 6), .ref (h0.length + 7), .ref (h0.length + 8), .ref (h0.length + 9)]), ia 8 (fun _ => 0), ia 8 (fun _ => 0), ia 8 (was0 8), ia 64 (fun _ => 0), ia 6 (fun _ => 0), ia 6 (hit0 6), ia 6 (fun _ => 0), ia 8 (fun _ => 0), qa 2 (fun _ => none), .inr (3, [.ref (h0.length + 12), .int 0]), ia 60 (fun _ => 0), .inr (4, [.ref (h0.length + 14), .ref (h0.length + 23), .int 0, .int (-6), .int (-6), .int 0, .int (-6)]), .inr (5, [.int 0, .int 0, .int 0, .int 0, .ref (h0.length + 15), .ref (h0.length + 16), .ref (h0.length + 17), .ref (h0.length + 18), .ref (h0.length + 19), .ref (h0.length + 20), .ref (h0.length + 21), .ref (h0.length + 22)]), ia 8 (fun _ => 0), ia 8 (fun _ => 0), ia 8 (was0 8), ia 64 (fun _ => 0), ia 6 (fun _ => 0), ia 6 (hit0 6), ia 6 (fun _ => 0), ia 8 (fun _ => 0), .inr (0, [.int 0, .int 0, .int 0, .int 0]), .inr (2, [.ref (h0.length + 25)]), ia 576 (fun _ => 0)]) dX6_init_53 f_X6_37 rfl rfl (inT 247 (by decide +kernel) rfl) rfl (Nat.le_of_ble_eq_true rfl) (fun _ => rfl) (fun _ => rfl) rfl ?_
    refine w_aload_n dX6_init_56 rfl ?_
    refine i_new (m := 26) dX6_init_57 n_X6_41 (fun _ => rfl) rfl (by simp only [pRm]; omega) (by simp only [pRm]; omega) ?_
    refine w_dup dX6_init_60 rfl ?_
    refine i_call (mc := 1) (ms := 8) (ws2 := [.inr (6, [.ref (h0.length + 1), .ref (h0.length + 10), .ref (h0.length + 11), .ref (h0.length + 13), .ref (h0.length + 24), .null]), .inr (5, [.int 0, .int 0, .int 0, .int 0, .ref (h0.length + 2), .ref (h0.length + 3), .ref (h0.length + 4), .ref (h0.length + 5), .ref (h0.length + 6), .ref (h0.length + 7), .ref (h0.length + 8), .ref (h0.length + 9)]), ia 8 (fun _ => 0), ia 8 (fun _ => 0), ia 8 (was0 8), ia 64 (fun _ => 0), ia 6 (fun _ => 0), ia 6 (hit0 6), ia 6 (fun _ => 0), ia 8 (fun _ => 0), qa 2 (fun _ => none), .inr (3, [.ref (h0.length + 12), .int 0]), ia 60 (fun _ => 0), .inr (4, [.ref (h0.length + 14), .ref (h0.length + 23), .int 0, .int (-6), .int (-6), .int 0, .int (-6)]), .inr (5, [.int 0, .int 0, .int 0, .int 0, .ref (h0.length + 15), .ref (h0.length + 16), .ref (h0.length + 17), .ref (h0.length + 18), .ref (h0.length + 19), .ref (h0.length + 20), .ref (h0.length + 21), .ref (h0.length + 22)]), ia 8 (fun _ => 0), ia 8 (fun _ => 0), ia 8 (was0 8), ia 64 (fun _ => 0), ia 6 (fun _ => 0), ia 6 (hit0 6), ia 6 (fun _ => 0), ia 8 (fun _ => 0), .inr (0, [.int 0, .int 0, .int 0, .int 0]), .inr (2, [.ref (h0.length + 25)]), ia 576 (fun _ => 0), .inr (1, [.ref (h0.length + 27), .int 0]), ia 8 (fun _ => 0)]) dX6_init_61 k_X6_43 (pm_X1_init (by rw [List.length_append]; rfl)) (Nat.le_of_ble_eq_true rfl) (Nat.le_of_ble_eq_true rfl) (Nat.le_of_ble_eq_true rfl) rfl (by simp only [pRm]; omega) (by simp only [pRm]; omega) rfl ?_
    refine i_putF (j := 0) (ws2 := [.inr (6, [.ref (h0.length + 1), .ref (h0.length + 10), .ref (h0.length + 11), .ref (h0.length + 13), .ref (h0.length + 24), .ref (h0.length + 26)]), .inr (5, [.int 0, .int 0, .int 0, .int 0, .ref (h0.length + 2), .ref (h0.length + 3), .ref (h0.length + 4), .ref (h0.length + 5), .ref (h0.length + 6), .ref (h0.length + 7), .ref (h0.length + 8), .ref (h0.length + 9)]), ia 8 (fun _ => 0), ia 8 (fun _ => 0), ia 8 (was0 8), ia 64 (fun _ => 0), ia 6 (fun _ => 0), ia 6 (hit0 6), ia 6 (fun _ => 0), ia 8 (fun _ => 0), qa 2 (fun _ => none), .inr (3, [.ref (h0.length + 12), .int 0]), ia 60 (fun _ => 0), .inr (4, [.ref (h0.length + 14), .ref (h0.length + 23), .int 0, .int (-6), .int (-6), .int 0, .int (-6)]), .inr (5, [.int 0, .int 0, .int 0, .int 0, .ref (h0.length + 15), .ref (h0.length + 16), .ref (h0.length + 17), .ref (h0.length + 18), .ref (h0.length + 19), .ref (h0.length + 20), .ref (h0.length + 21), .ref (h0.length + 22)]), ia 8 (fun _ => 0), ia 8 (fun _ => 0), ia 8 (was0 8), ia 64 (fun _ => 0), ia 6 (fun _ => 0), ia 6 (hit0 6), ia 6 (fun _ => 0), ia 8 (fun _ => 0), .inr (0, [.int 0, .int 0, .int 0, .int 0]), .inr (2, [.ref (h0.length + 25)]), ia 576 (fun _ => 0), .inr (1, [.ref (h0.length + 27), .int 0]), ia 8 (fun _ => 0)]) dX6_init_64 f_X6_44 rfl rfl (inT 248 (by decide +kernel) rfl) rfl (Nat.le_of_ble_eq_true rfl) (fun _ => rfl) (fun _ => rfl) rfl ?_
    exact w_vret dX6_init_67 rfl rfl (by simp only [List.length_append]; rfl) (Nat.le_of_ble_eq_true rfl)
  exact key [] rfl

def bk0 (k : Nat) : Nat → Int32 := iter (fun i f => upd f (16 + nI i : Int32).toNatClampNeg (-6)) k (fun _ => 0)
def M0 : MS := (bk0 8, fun _ => 0, fun _ => 0, hit0 6, 0, fun _ => 0, 0, fun _ => 0, 0, 0, 0, 0, 0, fun _ => 0, fun _ => 0, fun _ => 0, fun _ => 0)
theorem vin_16 {i k : Nat} (h : i + (k + 1) = 8) : vp_in ((16 : Int32) + nI i) 96 := by
  rw [show (16 : Int32) = nI 16 from rfl, nI_add]
  exact vp_in_nI (by omega) (by decide)
set_option maxRecDepth 100000 in
set_option maxHeartbeats 4000000 in
theorem pm_X7_init {l : Launch} {D : va_G} : PM l D YX7_init 1 [.ref 28] ((XH w0 (fun _ => none) (fun _ => 0) 0 w0 0 (-6) (-6) 0 (-6) 0 0 0 0 (fun _ => 0) (fun _ => 0) 0 []) ++ [.inr (7, [.null, .null, .null, .null, .int 0, .null, .int 0, .null, .int 0, .int 0, .int 0, .int 0, .int 0, .null, .null, .null, .null])]) 10 1126 none ((XH w0 (fun _ => none) (fun _ => 0) 0 w0 0 (-6) (-6) 0 (-6) 0 0 0 0 (fun _ => 0) (fun _ => 0) 0 []) ++ mcs M0) := by
  have key : ∀ h0 : PH, h0.length = 28 → PM l D YX7_init 1 [.ref h0.length] (h0 ++ [.inr (7, [.null, .null, .null, .null, .int 0, .null, .int 0, .null, .int 0, .int 0, .int 0, .int 0, .int 0, .null, .null, .null, .null])]) 10 1126 none (h0 ++ [.inr (7, [.ref (h0.length + 1), .ref (h0.length + 2), .ref (h0.length + 3), .ref (h0.length + 4), .int 0, .ref (h0.length + 5), .int 0, .ref (h0.length + 6), .int 0, .int 0, .int 0, .int 0, .int 0, .ref (h0.length + 7), .ref (h0.length + 8), .ref (h0.length + 9), .ref (h0.length + 10)]), ia 96 (bk0 8), ia 96 (fun _ => 0), ia 6 (fun _ => 0), ia 6 (hit0 6), ia 16 (fun _ => 0), ia 60 (fun _ => 0), ia 576 (fun _ => 0), ia 8 (fun _ => 0), ia 260 (fun _ => 0), za 2 (fun _ => 0)]) := by
    intro h0 _
    refine pm_of2 (n0 := h0.length + 1) kb_YX7_init (by rw [List.length_append]; rfl) [some (.ref (h0.length + 0)), none] (fun _ => rfl) (fun _ => (Nat.le_of_ble_eq_true rfl)) ?_
    have loop2 : ∀ (k i : Nat), i + k = 6 → Wp l D YX7_init (pRm 1 10 1126) (h0.length + 1) (fun _ _ _ => True) (mE D (h0.length + 1) 10 1126 none (h0 ++ [.inr (7, [.ref (h0.length + 1), .ref (h0.length + 2), .ref (h0.length + 3), .ref (h0.length + 4), .int 0, .ref (h0.length + 5), .int 0, .ref (h0.length + 6), .int 0, .int 0, .int 0, .int 0, .int 0, .ref (h0.length + 7), .ref (h0.length + 8), .ref (h0.length + 9), .ref (h0.length + 10)]), ia 96 (bk0 8), ia 96 (fun _ => 0), ia 6 (fun _ => 0), ia 6 (hit0 6), ia 16 (fun _ => 0), ia 60 (fun _ => 0), ia 576 (fun _ => 0), ia 8 (fun _ => 0), ia 260 (fun _ => 0), za 2 (fun _ => 0)])) 112 [some (.ref (h0.length + 0)), some (.int (nI i))] [] (h0 ++ [.inr (7, [.ref (h0.length + 1), .ref (h0.length + 2), .ref (h0.length + 3), .ref (h0.length + 4), .int 0, .ref (h0.length + 5), .int 0, .ref (h0.length + 6), .int 0, .int 0, .int 0, .int 0, .int 0, .ref (h0.length + 7), .ref (h0.length + 8), .ref (h0.length + 9), .ref (h0.length + 10)]), ia 96 (bk0 8), ia 96 (fun _ => 0), ia 6 (fun _ => 0), ia 6 (hit0 i), ia 16 (fun _ => 0), ia 60 (fun _ => 0), ia 576 (fun _ => 0), ia 8 (fun _ => 0), ia 260 (fun _ => 0), za 2 (fun _ => 0)]) 1126 := by
      intro k
      induction k with
      | zero =>
        intro i hi
        refine w_iload_n dX7_init_112 rfl ?_
        refine w_bipush (v := 6) dX7_init_113 (by decide) ?_
        refine w_icmp_ge_t (tgt := 131) dX7_init_115 (by decide) (lp_x hi (by decide) rfl) ?_
        have hi : i = 6 := by omega
        subst hi
        exact w_vret dX7_init_131 rfl rfl (by simp only [List.length_append]; rfl) (Nat.le_of_ble_eq_true rfl)
      | succ k ih =>
        intro i hi
        refine w_iload_n dX7_init_112 rfl ?_
        refine w_bipush (v := 6) dX7_init_113 (by decide) ?_
        refine w_icmp_ge_f dX7_init_115 ⟨131, by decide⟩ (lp_g hi (by decide) rfl) ?_
        refine w_aload_n dX7_init_118 rfl ?_
        refine w_get dX7_init_119 f_X7_19 (app_at (k := 0) rfl) rfl ?_
        refine w_iload_n dX7_init_122 rfl ?_
        refine w_iconst (v := 1) dX7_init_123 (by decide) ?_
        refine i_ast (j := 4) (ws2 := [.inr (7, [.ref (h0.length + 1), .ref (h0.length + 2), .ref (h0.length + 3), .ref (h0.length + 4), .int 0, .ref (h0.length + 5), .int 0, .ref (h0.length + 6), .int 0, .int 0, .int 0, .int 0, .int 0, .ref (h0.length + 7), .ref (h0.length + 8), .ref (h0.length + 9), .ref (h0.length + 10)]), ia 96 (bk0 8), ia 96 (fun _ => 0), ia 6 (fun _ => 0), ia 6 (hit0 (i + 1)), ia 16 (fun _ => 0), ia 60 (fun _ => 0), ia 576 (fun _ => 0), ia 8 (fun _ => 0), ia 260 (fun _ => 0), za 2 (fun _ => 0)]) dX7_init_124 rfl (vin_8 hi (by decide)) rfl ?_
        refine w_iinc_1 (v := 1) dX7_init_125 (by decide) (Nat.le_of_ble_eq_true rfl) rfl ?_
        refine w_goto (tgt := 112) dX7_init_128 (by decide) ?_
        exact w_loc_1 (nI_1 i) (ih (i + 1) (by omega))
    have loop1 : ∀ (k i : Nat), i + k = 8 → Wp l D YX7_init (pRm 1 10 1126) (h0.length + 1) (fun _ _ _ => True) (mE D (h0.length + 1) 10 1126 none (h0 ++ [.inr (7, [.ref (h0.length + 1), .ref (h0.length + 2), .ref (h0.length + 3), .ref (h0.length + 4), .int 0, .ref (h0.length + 5), .int 0, .ref (h0.length + 6), .int 0, .int 0, .int 0, .int 0, .int 0, .ref (h0.length + 7), .ref (h0.length + 8), .ref (h0.length + 9), .ref (h0.length + 10)]), ia 96 (bk0 8), ia 96 (fun _ => 0), ia 6 (fun _ => 0), ia 6 (hit0 6), ia 16 (fun _ => 0), ia 60 (fun _ => 0), ia 576 (fun _ => 0), ia 8 (fun _ => 0), ia 260 (fun _ => 0), za 2 (fun _ => 0)])) 87 [some (.ref (h0.length + 0)), some (.int (nI i))] [] (h0 ++ [.inr (7, [.ref (h0.length + 1), .ref (h0.length + 2), .ref (h0.length + 3), .ref (h0.length + 4), .int 0, .ref (h0.length + 5), .int 0, .ref (h0.length + 6), .int 0, .int 0, .int 0, .int 0, .int 0, .ref (h0.length + 7), .ref (h0.length + 8), .ref (h0.length + 9), .ref (h0.length + 10)]), ia 96 (bk0 i), ia 96 (fun _ => 0), ia 6 (fun _ => 0), ia 6 (hit0 0), ia 16 (fun _ => 0), ia 60 (fun _ => 0), ia 576 (fun _ => 0), ia 8 (fun _ => 0), ia 260 (fun _ => 0), za 2 (fun _ => 0)]) 1126 := by
      intro k
      induction k with
      | zero =>
        intro i hi
        refine w_iload_n dX7_init_87 rfl ?_
        refine w_bipush (v := 8) dX7_init_88 (by decide) ?_
        refine w_icmp_ge_t (tgt := 110) dX7_init_90 (by decide) (lp_x hi (by decide) rfl) ?_
        have hi : i = 8 := by omega
        subst hi
        refine w_iconst (v := 0) dX7_init_110 (by decide) ?_
        refine w_istore_1 dX7_init_111 (Nat.le_of_ble_eq_true rfl) rfl ?_
        exact loop2 6 0 rfl
      | succ k ih =>
        intro i hi
        refine w_iload_n dX7_init_87 rfl ?_
        refine w_bipush (v := 8) dX7_init_88 (by decide) ?_
        refine w_icmp_ge_f dX7_init_90 ⟨110, by decide⟩ (lp_g hi (by decide) rfl) ?_
        refine w_aload_n dX7_init_93 rfl ?_
        refine w_get dX7_init_94 f_X7_7 (app_at (k := 0) rfl) rfl ?_
        refine w_bipush (v := 16) dX7_init_97 (by decide) ?_
        refine w_iload_n dX7_init_99 rfl ?_
        refine w_iadd dX7_init_100 ?_
        refine w_bipush (v := (-6)) dX7_init_101 (by decide) ?_
        refine i_ast (j := 1) (ws2 := [.inr (7, [.ref (h0.length + 1), .ref (h0.length + 2), .ref (h0.length + 3), .ref (h0.length + 4), .int 0, .ref (h0.length + 5), .int 0, .ref (h0.length + 6), .int 0, .int 0, .int 0, .int 0, .int 0, .ref (h0.length + 7), .ref (h0.length + 8), .ref (h0.length + 9), .ref (h0.length + 10)]), ia 96 (bk0 (i + 1)), ia 96 (fun _ => 0), ia 6 (fun _ => 0), ia 6 (hit0 0), ia 16 (fun _ => 0), ia 60 (fun _ => 0), ia 576 (fun _ => 0), ia 8 (fun _ => 0), ia 260 (fun _ => 0), za 2 (fun _ => 0)]) dX7_init_103 rfl (vin_16 hi) rfl ?_
        refine w_iinc_1 (v := 1) dX7_init_104 (by decide) (Nat.le_of_ble_eq_true rfl) rfl ?_
        refine w_goto (tgt := 87) dX7_init_107 (by decide) ?_
        exact w_loc_1 (nI_1 i) (ih (i + 1) (by omega))
    refine w_aload_n dX7_init_0 rfl ?_
    refine w_objInit dX7_init_1 o_X7_1 (Nat.le_of_ble_eq_true rfl) (Nat.le_of_ble_eq_true rfl) (Nat.le_of_ble_eq_true rfl) ?_
    refine w_aload_n dX7_init_4 rfl ?_
    refine w_bipush (v := 96) dX7_init_5 (by decide) ?_
    refine i_newI (N := 96) (m := 1) (ws2 := [.inr (7, [.null, .null, .null, .null, .int 0, .null, .int 0, .null, .int 0, .int 0, .int 0, .int 0, .int 0, .null, .null, .null, .null]), ia 96 (fun _ => 0)]) dX7_init_7 (by decide) (by decide) (by decide) rfl (by simp only [pRm]; omega) (by simp only [pRm]; omega) rfl ?_
    refine i_putF (j := 0) (ws2 := [.inr (7, [.ref (h0.length + 1), .null, .null, .null, .int 0, .null, .int 0, .null, .int 0, .int 0, .int 0, .int 0, .int 0, .null, .null, .null, .null]), ia 96 (fun _ => 0)]) dX7_init_9 f_X7_7 rfl rfl (inT 641 (by decide +kernel) rfl) rfl (Nat.le_of_ble_eq_true rfl) (fun _ => rfl) (fun _ => rfl) rfl ?_
    refine w_aload_n dX7_init_12 rfl ?_
    refine w_bipush (v := 96) dX7_init_13 (by decide) ?_
    refine i_newI (N := 96) (m := 2) (ws2 := [.inr (7, [.ref (h0.length + 1), .null, .null, .null, .int 0, .null, .int 0, .null, .int 0, .int 0, .int 0, .int 0, .int 0, .null, .null, .null, .null]), ia 96 (fun _ => 0), ia 96 (fun _ => 0)]) dX7_init_15 (by decide) (by decide) (by decide) rfl (by simp only [pRm]; omega) (by simp only [pRm]; omega) rfl ?_
    refine i_putF (j := 0) (ws2 := [.inr (7, [.ref (h0.length + 1), .ref (h0.length + 2), .null, .null, .int 0, .null, .int 0, .null, .int 0, .int 0, .int 0, .int 0, .int 0, .null, .null, .null, .null]), ia 96 (fun _ => 0), ia 96 (fun _ => 0)]) dX7_init_17 f_X7_13 rfl rfl (inT 642 (by decide +kernel) rfl) rfl (Nat.le_of_ble_eq_true rfl) (fun _ => rfl) (fun _ => rfl) rfl ?_
    refine w_aload_n dX7_init_20 rfl ?_
    refine w_bipush (v := 6) dX7_init_21 (by decide) ?_
    refine i_newI (N := 6) (m := 3) (ws2 := [.inr (7, [.ref (h0.length + 1), .ref (h0.length + 2), .null, .null, .int 0, .null, .int 0, .null, .int 0, .int 0, .int 0, .int 0, .int 0, .null, .null, .null, .null]), ia 96 (fun _ => 0), ia 96 (fun _ => 0), ia 6 (fun _ => 0)]) dX7_init_23 (by decide) (by decide) (by decide) rfl (by simp only [pRm]; omega) (by simp only [pRm]; omega) rfl ?_
    refine i_putF (j := 0) (ws2 := [.inr (7, [.ref (h0.length + 1), .ref (h0.length + 2), .ref (h0.length + 3), .null, .int 0, .null, .int 0, .null, .int 0, .int 0, .int 0, .int 0, .int 0, .null, .null, .null, .null]), ia 96 (fun _ => 0), ia 96 (fun _ => 0), ia 6 (fun _ => 0)]) dX7_init_25 f_X7_16 rfl rfl (inT 643 (by decide +kernel) rfl) rfl (Nat.le_of_ble_eq_true rfl) (fun _ => rfl) (fun _ => rfl) rfl ?_
    refine w_aload_n dX7_init_28 rfl ?_
    refine w_bipush (v := 6) dX7_init_29 (by decide) ?_
    refine i_newI (N := 6) (m := 4) (ws2 := [.inr (7, [.ref (h0.length + 1), .ref (h0.length + 2), .ref (h0.length + 3), .null, .int 0, .null, .int 0, .null, .int 0, .int 0, .int 0, .int 0, .int 0, .null, .null, .null, .null]), ia 96 (fun _ => 0), ia 96 (fun _ => 0), ia 6 (fun _ => 0), ia 6 (fun _ => 0)]) dX7_init_31 (by decide) (by decide) (by decide) rfl (by simp only [pRm]; omega) (by simp only [pRm]; omega) rfl ?_
    refine i_putF (j := 0) (ws2 := [.inr (7, [.ref (h0.length + 1), .ref (h0.length + 2), .ref (h0.length + 3), .ref (h0.length + 4), .int 0, .null, .int 0, .null, .int 0, .int 0, .int 0, .int 0, .int 0, .null, .null, .null, .null]), ia 96 (fun _ => 0), ia 96 (fun _ => 0), ia 6 (fun _ => 0), ia 6 (fun _ => 0)]) dX7_init_33 f_X7_19 rfl rfl (inT 644 (by decide +kernel) rfl) rfl (Nat.le_of_ble_eq_true rfl) (fun _ => rfl) (fun _ => rfl) rfl ?_
    refine w_aload_n dX7_init_36 rfl ?_
    refine w_bipush (v := 16) dX7_init_37 (by decide) ?_
    refine i_newI (N := 16) (m := 5) (ws2 := [.inr (7, [.ref (h0.length + 1), .ref (h0.length + 2), .ref (h0.length + 3), .ref (h0.length + 4), .int 0, .null, .int 0, .null, .int 0, .int 0, .int 0, .int 0, .int 0, .null, .null, .null, .null]), ia 96 (fun _ => 0), ia 96 (fun _ => 0), ia 6 (fun _ => 0), ia 6 (fun _ => 0), ia 16 (fun _ => 0)]) dX7_init_39 (by decide) (by decide) (by decide) rfl (by simp only [pRm]; omega) (by simp only [pRm]; omega) rfl ?_
    refine i_putF (j := 0) (ws2 := [.inr (7, [.ref (h0.length + 1), .ref (h0.length + 2), .ref (h0.length + 3), .ref (h0.length + 4), .int 0, .ref (h0.length + 5), .int 0, .null, .int 0, .int 0, .int 0, .int 0, .int 0, .null, .null, .null, .null]), ia 96 (fun _ => 0), ia 96 (fun _ => 0), ia 6 (fun _ => 0), ia 6 (fun _ => 0), ia 16 (fun _ => 0)]) dX7_init_41 f_X7_22 rfl rfl (inT 646 (by decide +kernel) rfl) rfl (Nat.le_of_ble_eq_true rfl) (fun _ => rfl) (fun _ => rfl) rfl ?_
    refine w_aload_n dX7_init_44 rfl ?_
    refine w_bipush (v := 60) dX7_init_45 (by decide) ?_
    refine i_newI (N := 60) (m := 6) (ws2 := [.inr (7, [.ref (h0.length + 1), .ref (h0.length + 2), .ref (h0.length + 3), .ref (h0.length + 4), .int 0, .ref (h0.length + 5), .int 0, .null, .int 0, .int 0, .int 0, .int 0, .int 0, .null, .null, .null, .null]), ia 96 (fun _ => 0), ia 96 (fun _ => 0), ia 6 (fun _ => 0), ia 6 (fun _ => 0), ia 16 (fun _ => 0), ia 60 (fun _ => 0)]) dX7_init_47 (by decide) (by decide) (by decide) rfl (by simp only [pRm]; omega) (by simp only [pRm]; omega) rfl ?_
    refine i_putF (j := 0) (ws2 := [.inr (7, [.ref (h0.length + 1), .ref (h0.length + 2), .ref (h0.length + 3), .ref (h0.length + 4), .int 0, .ref (h0.length + 5), .int 0, .ref (h0.length + 6), .int 0, .int 0, .int 0, .int 0, .int 0, .null, .null, .null, .null]), ia 96 (fun _ => 0), ia 96 (fun _ => 0), ia 6 (fun _ => 0), ia 6 (fun _ => 0), ia 16 (fun _ => 0), ia 60 (fun _ => 0)]) dX7_init_49 f_X7_25 rfl rfl (inT 648 (by decide +kernel) rfl) rfl (Nat.le_of_ble_eq_true rfl) (fun _ => rfl) (fun _ => rfl) rfl ?_
    refine w_aload_n dX7_init_52 rfl ?_
    refine w_sipush (v := 576) dX7_init_53 (by decide) ?_
    refine i_newI (N := 576) (m := 7) (ws2 := [.inr (7, [.ref (h0.length + 1), .ref (h0.length + 2), .ref (h0.length + 3), .ref (h0.length + 4), .int 0, .ref (h0.length + 5), .int 0, .ref (h0.length + 6), .int 0, .int 0, .int 0, .int 0, .int 0, .null, .null, .null, .null]), ia 96 (fun _ => 0), ia 96 (fun _ => 0), ia 6 (fun _ => 0), ia 6 (fun _ => 0), ia 16 (fun _ => 0), ia 60 (fun _ => 0), ia 576 (fun _ => 0)]) dX7_init_56 (by decide) (by decide) (by decide) rfl (by simp only [pRm]; omega) (by simp only [pRm]; omega) rfl ?_
    refine i_putF (j := 0) (ws2 := [.inr (7, [.ref (h0.length + 1), .ref (h0.length + 2), .ref (h0.length + 3), .ref (h0.length + 4), .int 0, .ref (h0.length + 5), .int 0, .ref (h0.length + 6), .int 0, .int 0, .int 0, .int 0, .int 0, .ref (h0.length + 7), .null, .null, .null]), ia 96 (fun _ => 0), ia 96 (fun _ => 0), ia 6 (fun _ => 0), ia 6 (fun _ => 0), ia 16 (fun _ => 0), ia 60 (fun _ => 0), ia 576 (fun _ => 0)]) dX7_init_58 f_X7_28 rfl rfl (inT 654 (by decide +kernel) rfl) rfl (Nat.le_of_ble_eq_true rfl) (fun _ => rfl) (fun _ => rfl) rfl ?_
    refine w_aload_n dX7_init_61 rfl ?_
    refine w_bipush (v := 8) dX7_init_62 (by decide) ?_
    refine i_newI (N := 8) (m := 8) (ws2 := [.inr (7, [.ref (h0.length + 1), .ref (h0.length + 2), .ref (h0.length + 3), .ref (h0.length + 4), .int 0, .ref (h0.length + 5), .int 0, .ref (h0.length + 6), .int 0, .int 0, .int 0, .int 0, .int 0, .ref (h0.length + 7), .null, .null, .null]), ia 96 (fun _ => 0), ia 96 (fun _ => 0), ia 6 (fun _ => 0), ia 6 (fun _ => 0), ia 16 (fun _ => 0), ia 60 (fun _ => 0), ia 576 (fun _ => 0), ia 8 (fun _ => 0)]) dX7_init_64 (by decide) (by decide) (by decide) rfl (by simp only [pRm]; omega) (by simp only [pRm]; omega) rfl ?_
    refine i_putF (j := 0) (ws2 := [.inr (7, [.ref (h0.length + 1), .ref (h0.length + 2), .ref (h0.length + 3), .ref (h0.length + 4), .int 0, .ref (h0.length + 5), .int 0, .ref (h0.length + 6), .int 0, .int 0, .int 0, .int 0, .int 0, .ref (h0.length + 7), .ref (h0.length + 8), .null, .null]), ia 96 (fun _ => 0), ia 96 (fun _ => 0), ia 6 (fun _ => 0), ia 6 (fun _ => 0), ia 16 (fun _ => 0), ia 60 (fun _ => 0), ia 576 (fun _ => 0), ia 8 (fun _ => 0)]) dX7_init_66 f_X7_31 rfl rfl (inT 655 (by decide +kernel) rfl) rfl (Nat.le_of_ble_eq_true rfl) (fun _ => rfl) (fun _ => rfl) rfl ?_
    refine w_aload_n dX7_init_69 rfl ?_
    refine w_sipush (v := 260) dX7_init_70 (by decide) ?_
    refine i_newI (N := 260) (m := 9) (ws2 := [.inr (7, [.ref (h0.length + 1), .ref (h0.length + 2), .ref (h0.length + 3), .ref (h0.length + 4), .int 0, .ref (h0.length + 5), .int 0, .ref (h0.length + 6), .int 0, .int 0, .int 0, .int 0, .int 0, .ref (h0.length + 7), .ref (h0.length + 8), .null, .null]), ia 96 (fun _ => 0), ia 96 (fun _ => 0), ia 6 (fun _ => 0), ia 6 (fun _ => 0), ia 16 (fun _ => 0), ia 60 (fun _ => 0), ia 576 (fun _ => 0), ia 8 (fun _ => 0), ia 260 (fun _ => 0)]) dX7_init_73 (by decide) (by decide) (by decide) rfl (by simp only [pRm]; omega) (by simp only [pRm]; omega) rfl ?_
    refine i_putF (j := 0) (ws2 := [.inr (7, [.ref (h0.length + 1), .ref (h0.length + 2), .ref (h0.length + 3), .ref (h0.length + 4), .int 0, .ref (h0.length + 5), .int 0, .ref (h0.length + 6), .int 0, .int 0, .int 0, .int 0, .int 0, .ref (h0.length + 7), .ref (h0.length + 8), .ref (h0.length + 9), .null]), ia 96 (fun _ => 0), ia 96 (fun _ => 0), ia 6 (fun _ => 0), ia 6 (fun _ => 0), ia 16 (fun _ => 0), ia 60 (fun _ => 0), ia 576 (fun _ => 0), ia 8 (fun _ => 0), ia 260 (fun _ => 0)]) dX7_init_75 f_X7_34 rfl rfl (inT 656 (by decide +kernel) rfl) rfl (Nat.le_of_ble_eq_true rfl) (fun _ => rfl) (fun _ => rfl) rfl ?_
    refine w_aload_n dX7_init_78 rfl ?_
    refine w_iconst (v := 2) dX7_init_79 (by decide) ?_
    refine i_newZ (N := 2) (m := 10) (ws2 := [.inr (7, [.ref (h0.length + 1), .ref (h0.length + 2), .ref (h0.length + 3), .ref (h0.length + 4), .int 0, .ref (h0.length + 5), .int 0, .ref (h0.length + 6), .int 0, .int 0, .int 0, .int 0, .int 0, .ref (h0.length + 7), .ref (h0.length + 8), .ref (h0.length + 9), .null]), ia 96 (fun _ => 0), ia 96 (fun _ => 0), ia 6 (fun _ => 0), ia 6 (fun _ => 0), ia 16 (fun _ => 0), ia 60 (fun _ => 0), ia 576 (fun _ => 0), ia 8 (fun _ => 0), ia 260 (fun _ => 0), za 2 (fun _ => 0)]) dX7_init_80 (by decide) (by decide) (by decide) rfl (by simp only [pRm]; omega) (by simp only [pRm]; omega) rfl ?_
    refine i_putF (j := 0) (ws2 := [.inr (7, [.ref (h0.length + 1), .ref (h0.length + 2), .ref (h0.length + 3), .ref (h0.length + 4), .int 0, .ref (h0.length + 5), .int 0, .ref (h0.length + 6), .int 0, .int 0, .int 0, .int 0, .int 0, .ref (h0.length + 7), .ref (h0.length + 8), .ref (h0.length + 9), .ref (h0.length + 10)]), ia 96 (fun _ => 0), ia 96 (fun _ => 0), ia 6 (fun _ => 0), ia 6 (fun _ => 0), ia 16 (fun _ => 0), ia 60 (fun _ => 0), ia 576 (fun _ => 0), ia 8 (fun _ => 0), ia 260 (fun _ => 0), za 2 (fun _ => 0)]) dX7_init_82 f_X7_37 rfl rfl (inT 657 (by decide +kernel) rfl) rfl (Nat.le_of_ble_eq_true rfl) (fun _ => rfl) (fun _ => rfl) rfl ?_
    refine w_iconst (v := 0) dX7_init_85 (by decide) ?_
    refine w_istore_1 dX7_init_86 (Nat.le_of_ble_eq_true rfl) rfl ?_
    exact loop1 8 0 rfl
  exact key (XH w0 (fun _ => none) (fun _ => 0) 0 w0 0 (-6) (-6) 0 (-6) 0 0 0 0 (fun _ => 0) (fun _ => 0) 0 []) rfl

