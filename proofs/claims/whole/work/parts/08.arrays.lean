def za (N : Nat) (f : Nat → Int32) : PC := .inl (.boolean, (N, .inl f))
def qa (N : Nat) (f : Nat → Option Nat) : PC := .inl (.object RX5, (N, .inr (.inr (.inr (.inr f)))))
section PAR
variable {l : Launch} {D : va_G} {Y : PMth} {R : Room} {n0 : Nat} {X : State → Array Value → Nat → Prop} {E : List Frame → Array Value → State → Nat → State → Prop} {pc nx : Nat} {L : List (Option Value)} {st st0 : List Value} {h h2 : PH} {n : Nat}
theorem w_iald {a N : Nat} {f : Nat → Int32} {i : Int32} (hd : dc Y.2.1 pc .iaload 1 nx) (hc : h[a]? = some (ia N f)) (hi : vp_in i N) (kk : Wp l D Y R n0 X E nx L (.int (f i.toNatClampNeg) :: st) h n) : Wp l D Y R n0 X E pc L (.int i :: .ref a :: st) h n := by
  intro p e s m args below meth c B H locs ls C hX h1 hn0 h3 h4 h5
  obtain ⟨hd, rfl⟩ := hd
  obtain ⟨hx, hb, hr, hml, hown, hts, hlk, hnm, hG⟩ := id C
  have h3' := id h3
  obtain ⟨hz, ca, hP, hA⟩ := h3'
  obtain ⟨a1, a2⟩ := hA a _ _ hc
  exact va_iald (tys := [(ca a, .int)]) hx hb (pK1 hG.1 a1 a2) hP a 0 (pW_at hc) rfl hi hd (kk p e s m args below meth c B H locs ls C hX h1 hn0 h3 h4 h5)
theorem w_zald {a N : Nat} {f : Nat → Int32} {i : Int32} (hd : dc Y.2.1 pc .baload 1 nx) (hc : h[a]? = some (za N f)) (hi : vp_in i N) (kk : Wp l D Y R n0 X E nx L (.int (f i.toNatClampNeg) :: st) h n) : Wp l D Y R n0 X E pc L (.int i :: .ref a :: st) h n := by
  intro p e s m args below meth c B H locs ls C hX h1 hn0 h3 h4 h5
  obtain ⟨hd, rfl⟩ := hd
  obtain ⟨hx, hb, hr, hml, hown, hts, hlk, hnm, hG⟩ := id C
  have h3' := id h3
  obtain ⟨hz, ca, hP, hA⟩ := h3'
  obtain ⟨a1, a2⟩ := hA a _ _ hc
  exact va_zald (tys := [(ca a, .boolean)]) hx hb (pK1 hG.1 a1 a2) hP a 0 (pW_at hc) rfl hi hd (kk p e s m args below meth c B H locs ls C hX h1 hn0 h3 h4 h5)
theorem pv_rf (B : Nat) (r : Option Nat) : va_rf (r.map (fun i => B + i)) = pv B (va_rf r) := by cases r <;> rfl
theorem w_aald {a N : Nat} {f : Nat → Option Nat} {i : Int32} (hd : dc Y.2.1 pc .aaload 1 nx) (hc : h[a]? = some (qa N f)) (hi : vp_in i N) (kk : Wp l D Y R n0 X E nx L (va_rf (f i.toNatClampNeg) :: st) h n) : Wp l D Y R n0 X E pc L (.int i :: .ref a :: st) h n := by
  intro p e s m args below meth c B H locs ls C hX h1 hn0 h3 h4 h5
  obtain ⟨hd, rfl⟩ := hd
  obtain ⟨hx, hb, hr, hml, hown, hts, hlk, hnm, hG⟩ := id C
  have h3' := id h3
  obtain ⟨hz, ca, hP, hA⟩ := h3'
  obtain ⟨a1, a2⟩ := hA a _ _ hc
  refine va_aldq (tys := [(ca a, .object RX5)]) (n := N) (f := fun j => (f j).map (fun i => B + i)) hx hb (pK1 hG.1 a1 a2) hP a 0 (pW_at hc) rfl hi hd ?_
  rw [pv_rf]
  exact kk p e s m args below meth c B H locs ls C hX h1 hn0 h3 h4 h5
theorem w_iast {a N : Nat} {f : Nat → Int32} {i x : Int32} (hd : dc Y.2.1 pc .iastore 1 nx) (hc : h[a]? = some (ia N f)) (hi : vp_in i N) (kk : Wp l D Y R n0 X E nx L st (h.set a (ia N (upd f i.toNatClampNeg x))) n) : Wp l D Y R n0 X E pc L (.int x :: .int i :: .ref a :: st) h n := by
  intro p e s m args below meth c B H locs ls C hX h1 hn0 h3 h4 h5
  obtain ⟨hd, rfl⟩ := hd
  obtain ⟨hx, hb, hr, hml, hown, hts, hlk, hnm, hG⟩ := id C
  obtain ⟨hz, ca, hP, hA⟩ := h3
  obtain ⟨a1, a2⟩ := hA a _ _ hc
  refine va_iast (tys := [(ca a, .int)]) hx hb (pK1 hG.1 a1 a2) hP (pW_D B ca h) h4 a 0 (pW_at hc) rfl hi hd fun H1 locs1 g1 g2 g3 => W_size fun hle => ?_
  have hs := sim_set (c := ia N (upd f i.toNatClampNeg x)) hA hc g1 (by omega) (fun ty a q => by cases q; exact ⟨_, rfl⟩)
  have := kk p e s m args below meth c B H1 locs1 ls C hX h1 (by rw [List.length_set]; exact hn0) hs g3 h5
  rw [List.length_set] at this
  exact this
theorem w_zast {a N : Nat} {f : Nat → Int32} {i x : Int32} (hd : dc Y.2.1 pc .bastore 1 nx) (hc : h[a]? = some (za N f)) (hi : vp_in i N) (hx : vp_nar .boolean x = x) (kk : Wp l D Y R n0 X E nx L st (h.set a (za N (upd f i.toNatClampNeg x))) n) : Wp l D Y R n0 X E pc L (.int x :: .int i :: .ref a :: st) h n := by
  intro p e s m args below meth c B H locs ls C hX h1 hn0 h3 h4 h5
  obtain ⟨hd, rfl⟩ := hd
  have hxx := hx
  obtain ⟨hx, hb, hr, hml, hown, hts, hlk, hnm, hG⟩ := id C
  obtain ⟨hz, ca, hP, hA⟩ := h3
  obtain ⟨a1, a2⟩ := hA a _ _ hc
  refine va_zast (tys := [(ca a, .boolean)]) hx hb (pK1 hG.1 a1 a2) hP (pW_D B ca h) h4 a 0 (pW_at hc) rfl hi hd fun H1 locs1 g1 g2 g3 => W_size fun hle => ?_
  rw [hxx] at g1
  have hs := sim_set (c := za N (upd f i.toNatClampNeg x)) hA hc g1 (by omega) (fun ty a q => by cases q; exact ⟨_, rfl⟩)
  have := kk p e s m args below meth c B H1 locs1 ls C hX h1 (by rw [List.length_set]; exact hn0) hs g3 h5
  rw [List.length_set] at this
  exact this
theorem w_aast {a N v : Nat} {f : Nat → Option Nat} {i : Int32} {fs : List Value} (hd : dc Y.2.1 pc .aastore 1 nx) (hc : h[a]? = some (qa N f)) (hv : h[v]? = some (.inr (5, fs))) (hi : vp_in i N) (kk : Wp l D Y R n0 X E nx L st (h.set a (qa N (va_up f i.toNatClampNeg (some v)))) n) : Wp l D Y R n0 X E pc L (.ref v :: .int i :: .ref a :: st) h n := by
  intro p e s m args below meth c B H locs ls C hX h1 hn0 h3 h4 h5
  obtain ⟨hd, rfl⟩ := hd
  obtain ⟨hx, hb, hr, hml, hown, hts, hlk, hnm, hG⟩ := id C
  obtain ⟨hz, ca, hP, hA⟩ := h3
  obtain ⟨a1, a2⟩ := hA a _ _ hc
  refine va_astq (tys := [(ca a, .object RX5)]) (n := N) (v := B + v) (r := (RX5, TX5, 12)) (f := fun j => (f j).map (fun i => B + i)) hx hb (pK1 hG.1 a1 a2) hP (pW_D B ca h) h4 a 0 v 5 (pW_at hc) rfl (pW_at hv) rfl hi hd fun H1 locs1 g1 g2 g3 => W_size fun hle => ?_
  have hup : va_up (fun j => (f j).map (fun i => B + i)) i.toNatClampNeg (some (B + v)) = fun j => (va_up f i.toNatClampNeg (some v) j).map (fun i => B + i) := by
    funext j
    unfold va_up
    split <;> rfl
  rw [hup] at g1
  have hs := sim_set (c := qa N (va_up f i.toNatClampNeg (some v))) hA hc g1 (by omega) (fun ty a q => by cases q; exact ⟨_, rfl⟩)
  have := kk p e s m args below meth c B H1 locs1 ls C hX h1 (by rw [List.length_set]; exact hn0) hs g3 h5
  rw [List.length_set] at this
  exact this
theorem w_newI {x : Int32} {N q : Nat} (hd : dc Y.2.1 pc (.newarray .int) 2 nx) (hn : ¬ x < 0) (hN : x.toNatClampNeg = N) (hby : N * 4 ≤ 536870912) (hq : h.length = q) (hrc : q - n0 + 1 ≤ R.cells) (hrs : n + N ≤ R.slots) (kk : Wp l D Y R n0 X E nx L (.ref q :: st) (h ++ [ia N (fun _ => 0)]) (n + N)) : Wp l D Y R n0 X E pc L (.int x :: st) h n := by
  intro p e s m args below meth c B H locs ls C hX h1 hn0 h3 h4 h5
  obtain ⟨hd, rfl⟩ := hd
  subst hq
  obtain ⟨hx, hb, hr, hml, hown, hts, hlk, hnm, hG⟩ := id C
  obtain ⟨hz, ca, hP, hA⟩ := h3
  refine va_newa (atype := .int) (tys := []) (ty := .int) (a0 := (N, .inl (fun _ => 0))) hx hb (hts _ z_int) rfl hG.1 hP (pW_D B ca h) h4 (fun q hq => by show B ≤ q; omega) (fun cA => rfl) hn hN hby (by omega) hrs hd fun q cA H1 g0 g1 g2 g3 => W_size fun hle => ?_
  obtain ⟨rfl, hs⟩ := sim_add (c := ia N (fun _ => 0)) (cA := cA) hA g1 g2 (by omega) (fun ty a q => by cases q; exact g0.2 0 (cA, .int) rfl)
  have := kk p e s m args below meth c B H1 locs ls C hX h1 (by rw [List.length_append]; omega) hs g3 h5
  rw [show (h ++ [ia N (fun _ => 0)]).length - n0 = h.length - n0 + 1 by rw [List.length_append, List.length_singleton]; omega] at this
  exact this
theorem w_newZ {x : Int32} {N q : Nat} (hd : dc Y.2.1 pc (.newarray .boolean) 2 nx) (hn : ¬ x < 0) (hN : x.toNatClampNeg = N) (hby : N * 1 ≤ 536870912) (hq : h.length = q) (hrc : q - n0 + 1 ≤ R.cells) (hrs : n + N ≤ R.slots) (kk : Wp l D Y R n0 X E nx L (.ref q :: st) (h ++ [za N (fun _ => 0)]) (n + N)) : Wp l D Y R n0 X E pc L (.int x :: st) h n := by
  intro p e s m args below meth c B H locs ls C hX h1 hn0 h3 h4 h5
  obtain ⟨hd, rfl⟩ := hd
  subst hq
  obtain ⟨hx, hb, hr, hml, hown, hts, hlk, hnm, hG⟩ := id C
  obtain ⟨hz, ca, hP, hA⟩ := h3
  refine va_newa (atype := .boolean) (tys := []) (ty := .boolean) (a0 := (N, .inl (fun _ => 0))) hx hb (hts _ z_bool) rfl hG.1 hP (pW_D B ca h) h4 (fun q hq => by show B ≤ q; omega) (fun cA => rfl) hn hN hby (by omega) hrs hd fun q cA H1 g0 g1 g2 g3 => W_size fun hle => ?_
  obtain ⟨rfl, hs⟩ := sim_add (c := za N (fun _ => 0)) (cA := cA) hA g1 g2 (by omega) (fun ty a q => by cases q; exact g0.2 0 (cA, .boolean) rfl)
  have := kk p e s m args below meth c B H1 locs ls C hX h1 (by rw [List.length_append]; omega) hs g3 h5
  rw [show (h ++ [za N (fun _ => 0)]).length - n0 = h.length - n0 + 1 by rw [List.length_append, List.length_singleton]; omega] at this
  exact this
theorem w_newQ {x : Int32} {N q idx : Nat} (hd : dc Y.2.1 pc (.anewarray idx) 3 nx) (hcl : Cond.classLink Y.1.cls idx RX5 ∈ pTb) (hn : ¬ x < 0) (hN : x.toNatClampNeg = N) (hby : N * 4 ≤ 536870912) (hq : h.length = q) (hrc : q - n0 + 1 ≤ R.cells) (hrs : n + N ≤ R.slots) (kk : Wp l D Y R n0 X E nx L (.ref q :: st) (h ++ [qa N (fun _ => none)]) (n + N)) : Wp l D Y R n0 X E pc L (.int x :: st) h n := by
  intro p e s m args below meth c B H locs ls C hX h1 hn0 h3 h4 h5
  obtain ⟨hd, rfl⟩ := hd
  subst hq
  obtain ⟨hx, hb, hr, hml, hown, hts, hlk, hnm, hG⟩ := id C
  obtain ⟨hz, ca, hP, hA⟩ := h3
  refine va_newq (tys := []) (C := RX5) hx hb hown (hts _ hcl) hG.2.2 hG.1 hP (pW_D B ca h) h4 (fun q hq => by show B ≤ q; omega) hn hN hby (by omega) hrs hd fun q cA H1 g0 g1 g2 g3 => W_size fun hle => ?_
  obtain ⟨rfl, hs⟩ := sim_add (c := qa N (fun _ => none)) (cA := cA) hA g1 g2 (by omega) (fun ty a q => by cases q; exact g0.2 0 (cA, .object RX5) rfl)
  have := kk p e s m args below meth c B H1 locs ls C hX h1 (by rw [List.length_append]; omega) hs g3 h5
  rw [show (h ++ [qa N (fun _ => none)]).length - n0 = h.length - n0 + 1 by rw [List.length_append, List.length_singleton]; omega] at this
  exact this
theorem w_new {ci N q idx : Nat} {fs : List Value} (hd : dc Y.2.1 pc (.new idx) 3 nx) (hw : NWp Y.1.cls idx ci N fs) (hfs : ∀ B, fs.map (pv B) = fs) (hq : h.length = q) (hrc : q - n0 + 1 ≤ R.cells) (hrs : n + N ≤ R.slots) (kk : Wp l D Y R n0 X E nx L (.ref q :: st) (h ++ [.inr (ci, fs)]) (n + N)) : Wp l D Y R n0 X E pc L st h n := by
  intro p e s m args below meth c B H locs ls C hX h1 hn0 h3 h4 h5
  obtain ⟨hd, rfl⟩ := hd
  subst hq
  obtain ⟨hx, hb, hr, hml, hown, hts, hlk, hnm, hG⟩ := id C
  obtain ⟨C0, T, ty0, w1, w2, w3, w4, w5, w6, w7⟩ := hw
  obtain ⟨hz, ca, hP, hA⟩ := h3
  refine va_new (tys := []) (ci := ci) (fs := fs) hx hb hts w2 ty0 w6 hown (hts _ w3) (hts _ w4) (hts _ w5) hG.1 hP (pW_D B ca h) h4 (fun q hq => by show B ≤ q; omega) w1 w7 (by omega) hrs hd fun q H1 g1 g2 g3 => W_size fun hle => ?_
  have e0 : (Sum.inr (ci, fs) : va_E) = pE B 0 (.inr (ci, fs)) := by show _ = Sum.inr (ci, fs.map (pv B)); rw [hfs B]
  rw [e0] at g1 g2
  obtain ⟨rfl, hs⟩ := sim_add (c := .inr (ci, fs)) (cA := 0) hA g1 g2 (by omega) (fun ty a q => by cases q)
  have := kk p e s m args below meth c B H1 locs ls C hX h1 (by rw [List.length_append]; omega) hs g3 h5
  rw [show (h ++ [(.inr (ci, fs) : PC)]).length - n0 = h.length - n0 + 1 by rw [List.length_append, List.length_singleton]; omega] at this
  exact this
theorem w_mmax {x y : Int32} {idx : Nat} (hd : dc Y.2.1 pc (.invokestatic idx) 3 nx) (hl : Cond.methodLink Y.1.cls idx Lib.Math.max.name ∈ pTb) (hfr : 1 ≤ R.frames) (hlo : 21 ≤ R.locals) (hW : (st.map fun v => v.category).sum ≤ 8) (hrc : h.length - n0 ≤ R.cells ∧ n ≤ R.slots) (kk : Wp l D Y R n0 X E nx L (.int (if x < y then y else x) :: st) h n) : Wp l D Y R n0 X E pc L (.int y :: .int x :: st) h n := by
  intro p e s m args below meth c B H locs ls C hX h1 hn0 h3 h4 h5
  obtain ⟨hd, rfl⟩ := hd
  obtain ⟨hx, hb, hr, hml, hown, hts, hlk, hnm, hG⟩ := id C
  exact va_mmax (rest := st.map (pv B)) hx hb (hml.trans h5.1.symm) hown (hts _ hl) (hts _ m_max_stat) (hts _ m_ini) (hts _ m_max_code) hfr (by rw [p_cat]; omega) hrc.1 hrc.2 hd (kk p e s m args below meth c B H locs ls C hX h1 hn0 h3 h4 h5)
theorem w_mmin {x y : Int32} {idx : Nat} (hd : dc Y.2.1 pc (.invokestatic idx) 3 nx) (hl : Cond.methodLink Y.1.cls idx Lib.Math.min.name ∈ pTb) (hfr : 1 ≤ R.frames) (hlo : 21 ≤ R.locals) (hW : (st.map fun v => v.category).sum ≤ 8) (hrc : h.length - n0 ≤ R.cells ∧ n ≤ R.slots) (kk : Wp l D Y R n0 X E nx L (.int (if y < x then y else x) :: st) h n) : Wp l D Y R n0 X E pc L (.int y :: .int x :: st) h n := by
  intro p e s m args below meth c B H locs ls C hX h1 hn0 h3 h4 h5
  obtain ⟨hd, rfl⟩ := hd
  obtain ⟨hx, hb, hr, hml, hown, hts, hlk, hnm, hG⟩ := id C
  exact va_mmin (rest := st.map (pv B)) hx hb (hml.trans h5.1.symm) hown (hts _ hl) (hts _ m_min_stat) (hts _ m_ini) (hts _ m_min_code) hfr (by rw [p_cat]; omega) hrc.1 hrc.2 hd (kk p e s m args below meth c B H locs ls C hX h1 hn0 h3 h4 h5)
theorem w_copy {a0 a N0 N1 idx : Nat} {f g : Nat → Int32} {sp dp k : Int32} (hd : dc Y.2.1 pc (.invokestatic idx) 3 nx) (hl : Cond.methodLink Y.1.cls idx arraycopyName ∈ pTb) (hc0 : h[a0]? = some (ia N0 f)) (hc1 : h[a]? = some (ia N1 g)) (g1 : ¬ sp < 0) (g2 : ¬ dp < 0) (g3 : ¬ k < 0) (g4 : sp.toNatClampNeg + k.toNatClampNeg ≤ N0) (g5 : dp.toNatClampNeg + k.toNatClampNeg ≤ N1) (hfr : 1 ≤ R.frames) (hlo : 40 ≤ R.locals) (hW : (st.map fun v => v.category).sum ≤ 8) (kk : Wp l D Y R n0 X E nx L st (h.set a (ia N1 (va_cpy f g sp.toNatClampNeg dp.toNatClampNeg k.toNatClampNeg))) n) : Wp l D Y R n0 X E pc L (.int k :: .int dp :: .ref a :: .int sp :: .ref a0 :: st) h n := by
  intro p e s m args below meth c B H locs ls C hX h1 hn0 h3 h4 h5
  obtain ⟨hd, rfl⟩ := hd
  obtain ⟨hx, hb, hr, hml, hown, hts, hlk, hnm, hG⟩ := id C
  obtain ⟨hz, ca, hP, hA⟩ := h3
  obtain ⟨a1, a2⟩ := hA a _ _ hc1
  obtain ⟨a3, a4⟩ := hA a0 _ _ hc0
  have hK : va_K D vwCl [(ca a0, .int), (ca a, .int)] s := ⟨hG.1.1, fun k q hk => by
    match k, hk with
    | 0, hk => cases hk; exact ⟨a3, a4⟩
    | 1, hk => cases hk; exact ⟨a1, a2⟩⟩
  have hnw : nativeFrameWords "java/lang/System" "arraycopy" 5 + 11 ≤ 32 := by decide +kernel
  refine va_copyi (rest := st.map (pv B)) (tys := [(ca a0, .int), (ca a, .int)]) (ty := .int) hx hb (hml.trans h5.1.symm) hown (hts _ hl) (hts _ a_nat) (hts _ a_stat) (hts _ a_ini) hK hP (pW_D B ca h) h4 a0 a 0 1 (pW_at hc0) (pW_at hc1) rfl rfl rfl g1 g2 g3 g4 g5 (fun _ _ => rfl) hfr (by rw [p_cat]; omega) hd fun H1 locs1 q1 q2 q3 => W_size fun hle => ?_
  have hs := sim_set (c := ia N1 (va_cpy f g sp.toNatClampNeg dp.toNatClampNeg k.toNatClampNeg)) hA hc1 q1 (by omega) (fun ty a q => by cases q; exact ⟨_, rfl⟩)
  have := kk p e s m args below meth c B H1 locs1 ls C hX h1 (by rw [List.length_set]; exact hn0) hs q3 h5
  rw [List.length_set] at this
  exact this
end PAR
