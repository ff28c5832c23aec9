def ia (N : Nat) (f : Nat → Int32) : PC := .inl (.int, (N, .inl f))
def pRm (d mc ms : Nat) : Room := { frames := d, cells := mc, slots := ms, locals := 40 * d }
def pQ (D : va_G) (B n0 mc : Nat) (r : Option Value) (h2 : PH) : Array Value → State → Outcome → State → Prop := fun _ st oc t => (oc = .returned (r.map (pv B)) ∧ h2.length = n0 + mc ∧ Sim D B h2 t t.heap) ∧ va_F (fun q => B ≤ q) st t
def mE (D : va_G) (n0 mc ms : Nat) (r : Option Value) (h2 : PH) : List Frame → Array Value → State → Nat → State → Prop := fun below args s B => MQ below (pQ D B n0 mc r h2) args s mc ms (fun q => B ≤ q)
/-- method Y, d frames deep, with these arguments, from heap h: answers r, the heap is h2 then; mc cells of ms slots are made -/
def PM (l : Launch) (D : va_G) (Y : PMth) (d : Nat) (args : List Value) (h : PH) (mc ms : Nat) (r : Option Value) (h2 : PH) : Prop :=
  ∀ B : Nat, Met l Y.1 (Cond.code Y.1 Y.2.1 Y.2.2.1 Y.2.2.2 :: pTb) (pRm d mc ms) (fun v U => v = (args.map (pv B)).toArray ∧ pG D U ∧ Sim D B h U U.heap) (pQ D B h.length mc r h2) mc ms (fun q => B ≤ q)
theorem pm_of {l : Launch} {D : va_G} {Y : PMth} {d mc ms nA : Nat} {args : List Value} {h h2 : PH} {r : Option Value} (hb : KBp Y nA) (L : List (Option Value)) (hL : ∀ B, pL B 0 L = lv_args 0 (args.map (pv B))) (hlen : ∀ B, (lg_sl (args.map (pv B))).length ≤ Y.2.2.1) (k : Wp l D Y (pRm d mc ms) h.length (fun _ _ _ => True) (mE D h.length mc ms r h2) 0 L [] h 0) : PM l D Y d args h mc ms r h2 := by
  intro B
  refine Met.ofW (cc := Y.2.1) (maxL := Y.2.2.1) (ret := Y.2.2.2) hb.2.2.2 rfl ?_
  intro p e s m args' below meth c s₁ Bd hml hv
  obtain ⟨rfl, hG, hS⟩ := hv
  have hl := lv_entry (args.map (pv B)) (n := Y.2.2.1) (hlen B)
  rw [lg_entry_eq]
  have := k p e s m _ below meth c B s.heap [] _ ⟨Bd.exec, Bd.bytes, Bd.returns, hml, findClass_of_methodNamed Bd.named, fun w hw => atoms_spec (ws := Cond.code Y.1 Y.2.1 Y.2.2.1 Y.2.2.2 :: pTb) Bd.pre w (List.mem_cons_of_mem _ hw), Bd.notSynchronized, (name_of_methodNamed Bd.named Bd.method).1, hG⟩ trivial hS.1 (Nat.le_refl _) hS va_S.rf (by rw [hL B]; exact hl)
  rw [Nat.sub_self] at this
  exact this
theorem pGood {w : Cond} (hw : w ∈ pTb) : GoodIn pTb (w :: pTb) := by
  intro w' h'
  rcases List.mem_cons.mp h' with rfl | h'
  · exact ⟨hw, good_of_word (List.mem_filter.mp hw).2⟩
  · exact ⟨h', good_of_word (List.mem_filter.mp h').2⟩
section PCL
variable {l : Launch} {D : va_G} {Y : PMth} {R : Room} {n0 : Nat} {X : State → Array Value → Nat → Prop} {E : List Frame → Array Value → State → Nat → State → Prop} {pc nx : Nat} {L : List (Option Value)} {st st0 : List Value} {h h2 : PH} {n : Nat}
theorem pm_blind {args : List Value} {B : Nat} : FrameBlind (fun v U => v = (args.map (pv B)).toArray ∧ pG D U ∧ Sim D B h U U.heap) := by
  intro a U g mk q
  obtain ⟨q0, q1, q2⟩ := q
  exact ⟨q0, pG.same (u := U) (U := U.calling g mk a) rfl (Vm.Alike.refl U.vm) q1, Sim.moved (U := U.calling g mk a) (Vm.Alike.refl U.vm) q2⟩
/-- behind a call -/
theorem p_call {p : Program} {e : Env} {s : State} {m : MethodId} {args : Array Value} {below : List Frame} {meth : Method} {c : Code} {B : Nat} {H : Heap} {locs : List Loc} {ls : Array Slot} {cells slots mc ms : Nat} {Q : State → Prop} {rest stk : List Value} {a : Array Value} {r : Option Value} (hr : va_Run p l e R s m args below meth c H locs cells slots mc ms (F0 m pc ls stk) rest (pQ D B h.length mc r h2 a) (fun q => B ≤ q)) (hS : va_S (fun q => B ≤ q) s.heap H locs)
    (kk : ∀ (H1 : Heap) (locs1 : List Loc), h2.length = h.length + mc → Sim D B h2 s H1 → va_S (fun q => B ≤ q) s.heap H1 locs1 → W p l e R s m args below meth c H1 locs1 (cells + mc) (slots + ms) Q (F0 m (pc + 3) ls ((r.map (pv B)).toList ++ rest))) : W p l e R s m args below meth c H locs cells slots Q (F0 m pc ls stk) := by
  intro T hT X
  obtain ⟨v, st₀, t, T', Lx, h0, X', hLx, e1, e2, ⟨⟨hv, hlen, hSim⟩, hz, hk⟩, stp⟩ := hr T hT X
  cases hv
  rw [h0] at hz hk
  have hal : s.vm.Alike t.vm := by rw [← e2]; exact X'.warmed.alike
  obtain ⟨t2, a1, b1⟩ := kk T'.heap (locs ++ Lx) hlen (by rw [e1]; exact hSim.moved hal.symm)
    ⟨Nat.le_trans hS.1 (by rw [e1]; exact hz), fun q h1 h2 => by rw [e1, hk q (Nat.lt_of_lt_of_le h1 hS.1) h2]; exact hS.2.1 q h1 h2, fun q hq => by
      rcases List.mem_append.mp hq with h | h
      · exact hS.2.2 q h
      · exact hLx q h⟩ T' rfl X'
  exact ⟨t2, stp t2 a1, b1⟩
theorem p_cat (B : Nat) (vs : List Value) : ((vs.map (pv B)).map fun v => v.category).sum = (vs.map fun v => v.category).sum := by
  rw [List.map_map]; congr 1; apply List.map_congr_left; intro v _; exact pv_cat B v
theorem w_callV {Yc : PMth} {nA d mc ms a ci idx : Nat} {As : List Value} {r : Option Value} {fs : List Value} {T1 : u_T} {N1 : Nat} (hd : dc Y.2.1 pc (.invokevirtual idx) 3 nx) (hk : KVp Y.1.cls idx Yc nA) (hM : PM l D Yc d (.ref a :: As) h mc ms r h2) (hst : st0 = As.reverse ++ .ref a :: st) (hnA : As.length = nA) (hcell : h[a]? = some (.inr (ci, fs))) (hci : vwCl[ci]? = some (Yc.1.cls, T1, N1)) (hfr : d + 1 ≤ R.frames) (hlo : 8 + (Yc.2.2.1 + 11) + 40 * d ≤ R.locals) (hW : (st.map fun v => v.category).sum ≤ 8) (hrc : h.length - n0 + mc ≤ R.cells ∧ n + ms ≤ R.slots) (kk : Wp l D Y R n0 X E nx L (r.toList ++ st) h2 (n + ms)) : Wp l D Y R n0 X E pc L st0 h n := by
  intro p e s m args below meth c B H locs ls C hX h1 hn0 h3 h4 h5
  obtain ⟨hd, rfl⟩ := hd
  subst hst
  obtain ⟨hx, hb, hr, hml, hown, hts, hlk, hnm, hG⟩ := id C
  obtain ⟨⟨k1, k2, k3, k4⟩, k5, k6, k7⟩ := hk
  have h3' := id h3
  obtain ⟨hz, ca, hP, hA⟩ := h3'
  have hstk : (F0 m pc ls ((As.reverse ++ Value.ref a :: st).map (pv B))).stack = (As.map (pv B)).reverse ++ .ref (B + a) :: st.map (pv B) := by
    show (As.reverse ++ Value.ref a :: st).map (pv B) = _
    rw [List.map_append, List.map_reverse]; rfl
  have hPre : PreV s H Yc.1.cls (B + a) (fun v U => v = ((Value.ref a :: As).map (pv B)).toArray ∧ pG D U ∧ Sim D B h U U.heap) (As.map (pv B)) :=
    ⟨pm_blind, va_recv hG.1 hP hci (pW_at hcell), fun U hU hW => ⟨rfl, hG.warm hW, by rw [hU]; exact h3.moved hW.alike⟩⟩
  have hroom : 2 * (F0 m pc ls ((As.reverse ++ Value.ref a :: st).map (pv B))).monitorRoom + ((st.map (pv B)).map fun v => v.category).sum ≤ 8 := lv_room (by rw [p_cat]; exact hW)
  have hrun : va_Run p l e R s m args below meth c H locs (h.length - n0) n mc ms (F0 m pc ls ((As.reverse ++ Value.ref a :: st).map (pv B))) (st.map (pv B)) (pQ D B h.length mc r h2 (Value.ref (B + a) :: As.map (pv B)).toArray) (fun q => B ≤ q) := by
    rcases k5 with k5 | ⟨host, k5⟩
    · exact va_runV (Ts := pTb) (nL := Y.2.2.1) ⟨hx, hb, hml, hown, hts⟩ (hM B) ⟨callB_of nA hts (pGood k1) rfl rfl rfl (hts _ k2) (hts _ k5) k3 ⟨hfr, hlo⟩, hts _ k6, hts _ k7⟩ hPre rfl (by rw [List.length_map]; exact hnA) h5.1 hstk hroom hd hrc
    · exact va_runVN (Ts := pTb) (nL := Y.2.2.1) ⟨hx, hb, hml, hown, hts⟩ (hM B) ⟨va_cnB nA hts (pGood k1) rfl rfl rfl (hG.2.1 _ k5) (hts _ k2) k3 ⟨hfr, hlo⟩, hts _ k6, hts _ k7⟩ hPre rfl (by rw [List.length_map]; exact hnA) h5.1 hstk hroom hd hrc
  refine p_call hrun h4 fun H1 locs1 g1 g2 g3 => ?_
  have := kk p e s m args below meth c B H1 locs1 ls C hX h1 (by omega) g2 g3 h5
  rw [show h2.length - n0 = h.length - n0 + mc by omega] at this
  have he : (r.map (pv B)).toList ++ st.map (pv B) = (r.toList ++ st).map (pv B) := by rw [List.map_append]; cases r <;> rfl
  rw [he]
  exact this
theorem w_callS {Yc : PMth} {nA d mc ms idx : Nat} {As : List Value} {r : Option Value} (hd : dc Y.2.1 pc (.invokestatic idx) 3 nx) (hk : KSp Y.1.cls idx Yc nA) (hM : PM l D Yc d As h mc ms r h2) (hst : st0 = As.reverse ++ st) (hnA : As.length = nA) (hfr : d + 1 ≤ R.frames) (hlo : 8 + (Yc.2.2.1 + 11) + 40 * d ≤ R.locals) (hW : (st.map fun v => v.category).sum ≤ 8) (hrc : h.length - n0 + mc ≤ R.cells ∧ n + ms ≤ R.slots) (kk : Wp l D Y R n0 X E nx L (r.toList ++ st) h2 (n + ms)) : Wp l D Y R n0 X E pc L st0 h n := by
  intro p e s m args below meth c B H locs ls C hX h1 hn0 h3 h4 h5
  obtain ⟨hd, rfl⟩ := hd
  subst hst
  obtain ⟨hx, hb, hr, hml, hown, hts, hlk, hnm, hG⟩ := id C
  obtain ⟨⟨k1, k2, k3, k4⟩, k5, k6⟩ := hk
  have hstk : (F0 m pc ls ((As.reverse ++ st).map (pv B))).stack = (As.map (pv B)).reverse ++ st.map (pv B) := by
    show (As.reverse ++ st).map (pv B) = _
    rw [List.map_append, List.map_reverse]
  have hPre : PreS s H (fun v U => v = (As.map (pv B)).toArray ∧ pG D U ∧ Sim D B h U U.heap) (As.map (pv B)) :=
    ⟨pm_blind, fun U hU hW => ⟨rfl, hG.warm hW, by rw [hU]; exact h3.moved hW.alike⟩⟩
  have hroom : 2 * (F0 m pc ls ((As.reverse ++ st).map (pv B))).monitorRoom + ((st.map (pv B)).map fun v => v.category).sum ≤ 8 := lv_room (by rw [p_cat]; exact hW)
  have hrun : va_Run p l e R s m args below meth c H locs (h.length - n0) n mc ms (F0 m pc ls ((As.reverse ++ st).map (pv B))) (st.map (pv B)) (pQ D B h.length mc r h2 (As.map (pv B)).toArray) (fun q => B ≤ q) := by
    rcases k5 with k5 | ⟨host, k5⟩
    · exact va_runS (Ts := pTb) (nL := Y.2.2.1) ⟨hx, hb, hml, hown, hts⟩ (hM B) ⟨callB_of nA hts (pGood k1) rfl rfl rfl (hts _ k2) (hts _ k5) k3 ⟨hfr, hlo⟩, hts _ k6⟩ hPre rfl (by rw [List.length_map]; exact hnA) h5.1 hstk hroom hd hrc
    · exact va_runSN (Ts := pTb) (nL := Y.2.2.1) ⟨hx, hb, hml, hown, hts⟩ (hM B) ⟨va_cnB nA hts (pGood k1) rfl rfl rfl (hG.2.1 _ k5) (hts _ k2) k3 ⟨hfr, hlo⟩, hts _ k6, trivial⟩ hPre rfl (by rw [List.length_map]; exact hnA) h5.1 hstk hroom hd hrc
  refine p_call hrun h4 fun H1 locs1 g1 g2 g3 => ?_
  have := kk p e s m args below meth c B H1 locs1 ls C hX h1 (by omega) g2 g3 h5
  rw [show h2.length - n0 = h.length - n0 + mc by omega] at this
  have he : (r.map (pv B)).toList ++ st.map (pv B) = (r.toList ++ st).map (pv B) := by rw [List.map_append]; cases r <;> rfl
  rw [he]
  exact this
theorem w_callI {Yc : PMth} {nA d mc ms a idx : Nat} {As : List Value} (hd : dc Y.2.1 pc (.invokespecial idx) 3 nx) (hk : KIp Y.1.cls idx Yc nA) (hM : PM l D Yc d (.ref a :: As) h mc ms none h2) (hst : st0 = As.reverse ++ .ref a :: st) (hnA : As.length = nA) (hfr : d + 1 ≤ R.frames) (hlo : 8 + (Yc.2.2.1 + 11) + 40 * d ≤ R.locals) (hW : (st.map fun v => v.category).sum ≤ 8) (hrc : h.length - n0 + mc ≤ R.cells ∧ n + ms ≤ R.slots) (kk : Wp l D Y R n0 X E nx L st h2 (n + ms)) : Wp l D Y R n0 X E pc L st0 h n := by
  intro p e s m args below meth c B H locs ls C hX h1 hn0 h3 h4 h5
  obtain ⟨hd, rfl⟩ := hd
  subst hst
  obtain ⟨hx, hb, hr, hml, hown, hts, hlk, hnm, hG⟩ := id C
  obtain ⟨⟨k1, k2, k3, k4⟩, k5, k6, k7, k8⟩ := hk
  have hstk : (F0 m pc ls ((As.reverse ++ Value.ref a :: st).map (pv B))).stack = (As.map (pv B)).reverse ++ .ref (B + a) :: st.map (pv B) := by
    show (As.reverse ++ Value.ref a :: st).map (pv B) = _
    rw [List.map_append, List.map_reverse]; rfl
  have hPre : PreS s H (fun v U => v = ((Value.ref a :: As).map (pv B)).toArray ∧ pG D U ∧ Sim D B h U U.heap) (.ref (B + a) :: As.map (pv B)) :=
    ⟨pm_blind, fun U hU hW => ⟨rfl, hG.warm hW, by rw [hU]; exact h3.moved hW.alike⟩⟩
  have hroom : 2 * (F0 m pc ls ((As.reverse ++ Value.ref a :: st).map (pv B))).monitorRoom + ((st.map (pv B)).map fun v => v.category).sum ≤ 8 := lv_room (by rw [p_cat]; exact hW)
  have hMB := hM B
  rw [k8] at k1 hMB
  have hrun : va_Run p l e R s m args below meth c H locs (h.length - n0) n mc ms (F0 m pc ls ((As.reverse ++ Value.ref a :: st).map (pv B))) (st.map (pv B)) (pQ D B h.length mc none h2 (Value.ref (B + a) :: As.map (pv B)).toArray) (fun q => B ≤ q) := by
    rcases k5 with k5 | ⟨host, k5⟩
    · exact va_runI (Ts := pTb) (nL := Y.2.2.1) ⟨hx, hb, hml, hown, hts⟩ hMB ⟨callB_of nA hts (pGood k1) rfl rfl rfl (hts _ k2) (hts _ k5) k3 ⟨hfr, hlo⟩, k7, hts _ k6⟩ hPre rfl (by rw [List.length_map]; exact hnA) h5.1 hstk hroom hd hrc
    · exact va_runIN (Ts := pTb) (nL := Y.2.2.1) ⟨hx, hb, hml, hown, hts⟩ hMB ⟨va_cnB nA hts (pGood k1) rfl rfl rfl (hG.2.1 _ k5) (hts _ k2) k3 ⟨hfr, hlo⟩, k7, hts _ k6⟩ hPre rfl (by rw [List.length_map]; exact hnA) h5.1 hstk hroom hd hrc
  refine p_call hrun h4 fun H1 locs1 g1 g2 g3 => ?_
  have := kk p e s m args below meth c B H1 locs1 ls C hX h1 (by omega) g2 g3 h5
  rw [show h2.length - n0 = h.length - n0 + mc by omega] at this
  exact this
theorem w_objInit {a idx : Nat} (hd : dc Y.2.1 pc (.invokespecial idx) 3 nx) (hl : Cond.methodLink Y.1.cls idx Lib.objectInit ∈ pTb) (hfr : 1 ≤ R.frames) (hlo : 20 ≤ R.locals) (hW : (st.map fun v => v.category).sum ≤ 8) (kk : Wp l D Y R n0 X E nx L st h n) : Wp l D Y R n0 X E pc L (.ref a :: st) h n := by
  intro p e s m args below meth c B H locs ls C hX h1 hn0 h3 h4 h5
  obtain ⟨hd, rfl⟩ := hd
  obtain ⟨hx, hb, hr, hml, hown, hts, hlk, hnm, hG⟩ := id C
  refine W.objInit (a := B + a) (rest := st.map (pv B)) hx hb hown (hts _ hl) (hts _ o_inst) (hts _ o_code) rfl (h5.1.trans hml.symm) rfl hd hfr ?_ (kk p e s m args below meth c B H locs ls C hX h1 hn0 h3 h4 h5)
  have : 2 * (F0 m pc ls ((Value.ref a :: st).map (pv B))).monitorRoom + ((st.map (pv B)).map fun v => v.category).sum ≤ 8 := lv_room (by rw [p_cat]; exact hW)
  omega
/-- the ends of a method -/
theorem w_iret {v v' : Int32} {mc ms : Nat} (hd : dc Y.2.1 pc .ireturn 1 nx) (hr : Y.2.2.2 = some .int) (hv : v = v') (hh : h = h2) (hl : h.length = n0 + mc) (hn : n ≤ ms) : Wp l D Y R n0 X (mE D n0 mc ms (some (.int v')) h2) pc L [.int v] h n := by
  intro p e s m args below meth c B H locs ls C hX h1 hn0 h3 h4 h5
  obtain ⟨hd, rfl⟩ := hd
  subst hv; subst hh
  obtain ⟨hx, hb, hrt, hml, hown, hts, hlk, hnm, hG⟩ := id C
  refine W.widen (k := mc) (n := ms) (by omega) hn ?_
  exact W.iret hx hb (hrt.trans hr) (fun t ht hW => ⟨⟨rfl, hl, by rw [ht]; exact h3.moved hW.alike⟩, h4.F ht⟩) (fun q hq => h4.2.2 q hq) hd hlk
theorem w_zret {v v' : Int32} {mc ms : Nat} (hd : dc Y.2.1 pc .ireturn 1 nx) (hr : Y.2.2.2 = some .boolean) (hz : narrow .boolean (.int v) = .int v) (hv : v = v') (hh : h = h2) (hl : h.length = n0 + mc) (hn : n ≤ ms) : Wp l D Y R n0 X (mE D n0 mc ms (some (.int v')) h2) pc L [.int v] h n := by
  intro p e s m args below meth c B H locs ls C hX h1 hn0 h3 h4 h5
  obtain ⟨hd, rfl⟩ := hd
  subst hv; subst hh
  obtain ⟨hx, hb, hrt, hml, hown, hts, hlk, hnm, hG⟩ := id C
  refine W.widen (k := mc) (n := ms) (by omega) hn ?_
  exact W.zret hx hb (hrt.trans hr) hz (fun t ht hW => ⟨⟨rfl, hl, by rw [ht]; exact h3.moved hW.alike⟩, h4.F ht⟩) (fun q hq => h4.2.2 q hq) hd hlk
theorem w_lret {v v' : Int64} {mc ms : Nat} (hd : dc Y.2.1 pc .lreturn 1 nx) (hr : Y.2.2.2 = some .long) (hv : v = v') (hh : h = h2) (hl : h.length = n0 + mc) (hn : n ≤ ms) : Wp l D Y R n0 X (mE D n0 mc ms (some (.long v')) h2) pc L [.long v] h n := by
  intro p e s m args below meth c B H locs ls C hX h1 hn0 h3 h4 h5
  obtain ⟨hd, rfl⟩ := hd
  subst hv; subst hh
  obtain ⟨hx, hb, hrt, hml, hown, hts, hlk, hnm, hG⟩ := id C
  refine W.widen (k := mc) (n := ms) (by omega) hn ?_
  exact W.lret hx hb (hrt.trans hr) (fun t ht hW => ⟨⟨rfl, hl, by rw [ht]; exact h3.moved hW.alike⟩, h4.F ht⟩) (fun q hq => h4.2.2 q hq) hd hlk
theorem w_vret {mc ms : Nat} (hd : dc Y.2.1 pc .return_ 1 nx) (hr : Y.2.2.2 = none) (hh : h = h2) (hl : h.length = n0 + mc) (hn : n ≤ ms) : Wp l D Y R n0 X (mE D n0 mc ms none h2) pc L [] h n := by
  intro p e s m args below meth c B H locs ls C hX h1 hn0 h3 h4 h5
  obtain ⟨hd, rfl⟩ := hd
  subst hh
  obtain ⟨hx, hb, hrt, hml, hown, hts, hlk, hnm, hG⟩ := id C
  refine W.widen (k := mc) (n := ms) (by omega) hn ?_
  exact W.vret hx hb (hrt.trans hr) (fun t ht hW => ⟨⟨rfl, hl, by rw [ht]; exact h3.moved hW.alike⟩, h4.F ht⟩) (fun q hq => h4.2.2 q hq) hd hlk
end PCL
