def R_law : String := "NextLifeLaw"
def lw_P (b : Addr) (xs : List Int32) (args : Array Value) (s : State) : Prop := args = #[.ref b] ∧ s.IntsAt b xs ∧ xs.length ≤ 384 ∧ (Jvm.Cond.and given_1 narrow_1).before args s = true
def lw_Q (_ : Array Value) (s : State) (o : Outcome) (t : State) : Prop := o = .returned (some (.int 1)) ∧ Framed s o t [] 600000 7302250
def lw_Z (below : List Frame) (a : Array Value) (s : State) : State → Prop := fun t => ∃ o, t.status = .running ∧ Ended t below o ∧ lw_Q a s o t
/-- the law's own end, with 1 on the stack, nothing written that was there before, its room as the claim has it -/
theorem lw_ret {p : Program} {l : Launch} {e : Env} {s : State} {m : MethodId} {below : List Frame} {meth : Method} {c : Code} {b : Nat} (hx : p.tables.exec = Jvm.exec) (hb : c.code = code) (hr : meth.sig.returnType = ret) (hlocks : meth.locks = false) {pc : Nat} {H : Heap} {ls : Array Slot} (hdg : decode code pc = .ok (.ireturn, 1)) : W p l e room_1 s m #[Value.ref b] below meth c H [] 600000 7302250 (lw_Z below #[Value.ref b] s) (F0 m pc ls [.int 1]) := by
  intro T hT X
  obtain ⟨fs, hret, hrun, hended, hW, hframe⟩ := X.leave (v := some (.int 1)) (hlocks := hlocks) (fun h => by rw [hr] at h; cases h)
  have hmeth' : T.vm.method? m = some meth := X.method'
  refine ⟨T.setFrames fs, ?_, .returned (some (.int 1)), hrun, hended, rfl, ⟨_, rfl⟩, hW, hframe⟩
  jvm_step X.here [X.here.top, hx, hb, hdg, hmeth', hr, ret, narrow_b1]
  (try refine ⟨rfl, ?_⟩); (try refine ⟨rfl, ?_⟩)
  first | (intro acts; rw [hret _ acts rfl rfl rfl]) | rw [hret _ _ rfl rfl rfl]
  exact Steps.refl _
/-- what holds at the law's entry: the machine, the code, the tables' words (any of lw_tbl by 'hts w (by decide +kernel)'), the script of L ints xs at the cell b, what the Statement gives of the start (any of its parts by flat_of_before) -/
def lw_At (p : Program) (s : State) (m : MethodId) (meth : Method) (c : Code) (b L : Nat) (xs : Nat → Int32) : Prop :=
  p.tables.exec = Jvm.exec ∧ c.code = code ∧ meth.sig.returnType = ret ∧ c.maxLocals = 4 ∧ s.vm.findClass R_law = some m.cls ∧ (∀ w ∈ lw_tbl, w.before #[Value.ref b] s = true) ∧ va_X b L xs s s.heap ∧ b < s.heap.size ∧ meth.locks = false ∧ (Jvm.Cond.and given_1 narrow_1).before #[Value.ref b] s = true
/-- what holds all through the law -/
def CLw (D : va_G) (p : Program) (s : State) (m : MethodId) (meth : Method) (c : Code) (b Ln : Nat) (xs : Nat → Int32) : Prop := p.tables.exec = Jvm.exec ∧ c.code = code ∧ meth.sig.returnType = ret ∧ c.maxLocals = 4 ∧ s.vm.findClass RL = some m.cls ∧ (∀ w ∈ pTb, w.before #[Value.ref b] s = true) ∧ meth.locks = false ∧ pG D s ∧ va_X b Ln xs s s.heap ∧ b < s.heap.size
def WL (l : Launch) (D : va_G) (b Ln : Nat) (xs : Nat → Int32) (lv : Nat → List (Nat × Value)) (pc : Nat) (st : List Value) (h : PH) (n : Nat) : Prop := ∀ (p : Program) (e : Env) (s : State) (m : MethodId) (below : List Frame) (meth : Method) (c : Code) (H : Heap) (locs : List Loc) (ls : Array Slot), CLw D p s m meth c b Ln xs → Sim D s.heap.size h s H → va_S (fun q => s.heap.size ≤ q) s.heap H locs → lv_has ls 4 (lv s.heap.size) → W p l e room_1 s m #[Value.ref b] below meth c H locs h.length n (lw_Z below #[Value.ref b] s) (F0 m pc ls (st.map (pv s.heap.size)))
def lvI (b : Nat) (i : Int32) : Nat → List (Nat × Value) := fun B => [(3, .int i), (2, .ref (B + 28)), (1, .ref (B + 0)), (0, .ref b)]
section WLS
variable {l : Launch} {D : va_G} {b Ln : Nat} {xs : Nat → Int32} {lv : Nat → List (Nat × Value)} {pc nx : Nat} {st st0 : List Value} {h h2 : PH} {n : Nat}
theorem wl_callV {Yc : PMth} {nA d mc ms a ci idx : Nat} {As : List Value} {r : Option Value} {fs : List Value} {T1 : u_T} {N1 : Nat} (hd : dc code pc (.invokevirtual idx) 3 nx) (hk : KVp RL idx Yc nA) (hM : PM l D Yc d (.ref a :: As) h mc ms r h2) (hst : st0 = As.reverse ++ .ref a :: st) (hnA : As.length = nA) (hcell : h[a]? = some (.inr (ci, fs))) (hci : vwCl[ci]? = some (Yc.1.cls, T1, N1)) (hfr : d + 1 ≤ room_1.frames) (hlo : 8 + (Yc.2.2.1 + 11) + 40 * d ≤ room_1.locals) (hW : (st.map fun v => v.category).sum ≤ 8) (hrc : h.length + mc ≤ room_1.cells ∧ n + ms ≤ room_1.slots) (kk : WL l D b Ln xs lv nx (r.toList ++ st) h2 (n + ms)) : WL l D b Ln xs lv pc st0 h n := by
  intro p e s m below meth c H locs ls C h3 h4 h5
  obtain ⟨hd, rfl⟩ := hd
  subst hst
  obtain ⟨hx, hb, hr, hml, hown, hts, hlk, hG, -⟩ := id C
  obtain ⟨⟨k1, k2, k3, k4⟩, k5, k6, k7⟩ := hk
  have h3' := id h3
  obtain ⟨hz, ca, hP, hA⟩ := h3'
  have hstk : (F0 m pc ls ((As.reverse ++ Value.ref a :: st).map (pv s.heap.size))).stack = (As.map (pv s.heap.size)).reverse ++ .ref (s.heap.size + a) :: st.map (pv s.heap.size) := by
    show (As.reverse ++ Value.ref a :: st).map (pv s.heap.size) = _
    rw [List.map_append, List.map_reverse]; rfl
  have hPre : PreV s H Yc.1.cls (s.heap.size + a) (fun v U => v = ((Value.ref a :: As).map (pv s.heap.size)).toArray ∧ pG D U ∧ Sim D s.heap.size h U U.heap) (As.map (pv s.heap.size)) :=
    ⟨pm_blind, va_recv hG.1 hP hci (pW_at hcell), fun U hU hW => ⟨rfl, hG.warm hW, by rw [hU]; exact h3.moved hW.alike⟩⟩
  have hroom : 2 * (F0 m pc ls ((As.reverse ++ Value.ref a :: st).map (pv s.heap.size))).monitorRoom + ((st.map (pv s.heap.size)).map fun v => v.category).sum ≤ 8 := lv_room (by rw [p_cat]; exact hW)
  have hrun : va_Run p l e room_1 s m #[Value.ref b] below meth c H locs h.length n mc ms (F0 m pc ls ((As.reverse ++ Value.ref a :: st).map (pv s.heap.size))) (st.map (pv s.heap.size)) (pQ D s.heap.size h.length mc r h2 (Value.ref (s.heap.size + a) :: As.map (pv s.heap.size)).toArray) (fun q => s.heap.size ≤ q) := by
    rcases k5 with k5 | ⟨host, k5⟩
    · exact va_runV (Ts := pTb) (nL := 4) ⟨hx, hb, hml, hown, hts⟩ (hM s.heap.size) ⟨callB_of nA hts (pGood k1) rfl rfl rfl (hts _ k2) (hts _ k5) k3 ⟨hfr, hlo⟩, hts _ k6, hts _ k7⟩ hPre rfl (by rw [List.length_map]; exact hnA) h5.1 hstk hroom hd hrc
    · exact va_runVN (Ts := pTb) (nL := 4) ⟨hx, hb, hml, hown, hts⟩ (hM s.heap.size) ⟨va_cnB nA hts (pGood k1) rfl rfl rfl (hG.2.1 _ k5) (hts _ k2) k3 ⟨hfr, hlo⟩, hts _ k6, hts _ k7⟩ hPre rfl (by rw [List.length_map]; exact hnA) h5.1 hstk hroom hd hrc
  refine p_call hrun h4 fun H1 locs1 g1 g2 g3 => ?_
  have := kk p e s m below meth c H1 locs1 ls C g2 g3 h5
  rw [g1] at this
  have he : (r.map (pv s.heap.size)).toList ++ st.map (pv s.heap.size) = (r.toList ++ st).map (pv s.heap.size) := by rw [List.map_append]; cases r <;> rfl
  rw [he]
  exact this
theorem wl_callI {Yc : PMth} {nA d mc ms a idx : Nat} {As : List Value} (hd : dc code pc (.invokespecial idx) 3 nx) (hk : KIp RL idx Yc nA) (hM : PM l D Yc d (.ref a :: As) h mc ms none h2) (hst : st0 = As.reverse ++ .ref a :: st) (hnA : As.length = nA) (hfr : d + 1 ≤ room_1.frames) (hlo : 8 + (Yc.2.2.1 + 11) + 40 * d ≤ room_1.locals) (hW : (st.map fun v => v.category).sum ≤ 8) (hrc : h.length + mc ≤ room_1.cells ∧ n + ms ≤ room_1.slots) (kk : WL l D b Ln xs lv nx st h2 (n + ms)) : WL l D b Ln xs lv pc st0 h n := by
  intro p e s m below meth c H locs ls C h3 h4 h5
  obtain ⟨hd, rfl⟩ := hd
  subst hst
  obtain ⟨hx, hb, hr, hml, hown, hts, hlk, hG, -⟩ := id C
  obtain ⟨⟨k1, k2, k3, k4⟩, k5, k6, k7, k8⟩ := hk
  have hstk : (F0 m pc ls ((As.reverse ++ Value.ref a :: st).map (pv s.heap.size))).stack = (As.map (pv s.heap.size)).reverse ++ .ref (s.heap.size + a) :: st.map (pv s.heap.size) := by
    show (As.reverse ++ Value.ref a :: st).map (pv s.heap.size) = _
    rw [List.map_append, List.map_reverse]; rfl
  have hPre : PreS s H (fun v U => v = ((Value.ref a :: As).map (pv s.heap.size)).toArray ∧ pG D U ∧ Sim D s.heap.size h U U.heap) (.ref (s.heap.size + a) :: As.map (pv s.heap.size)) :=
    ⟨pm_blind, fun U hU hW => ⟨rfl, hG.warm hW, by rw [hU]; exact h3.moved hW.alike⟩⟩
  have hroom : 2 * (F0 m pc ls ((As.reverse ++ Value.ref a :: st).map (pv s.heap.size))).monitorRoom + ((st.map (pv s.heap.size)).map fun v => v.category).sum ≤ 8 := lv_room (by rw [p_cat]; exact hW)
  have hMB := hM s.heap.size
  rw [k8] at k1 hMB
  have hrun : va_Run p l e room_1 s m #[Value.ref b] below meth c H locs h.length n mc ms (F0 m pc ls ((As.reverse ++ Value.ref a :: st).map (pv s.heap.size))) (st.map (pv s.heap.size)) (pQ D s.heap.size h.length mc none h2 (Value.ref (s.heap.size + a) :: As.map (pv s.heap.size)).toArray) (fun q => s.heap.size ≤ q) := by
    rcases k5 with k5 | ⟨host, k5⟩
    · exact va_runI (Ts := pTb) (nL := 4) ⟨hx, hb, hml, hown, hts⟩ hMB ⟨callB_of nA hts (pGood k1) rfl rfl rfl (hts _ k2) (hts _ k5) k3 ⟨hfr, hlo⟩, k7, hts _ k6⟩ hPre rfl (by rw [List.length_map]; exact hnA) h5.1 hstk hroom hd hrc
    · exact va_runIN (Ts := pTb) (nL := 4) ⟨hx, hb, hml, hown, hts⟩ hMB ⟨va_cnB nA hts (pGood k1) rfl rfl rfl (hG.2.1 _ k5) (hts _ k2) k3 ⟨hfr, hlo⟩, k7, hts _ k6⟩ hPre rfl (by rw [List.length_map]; exact hnA) h5.1 hstk hroom hd hrc
  refine p_call hrun h4 fun H1 locs1 g1 g2 g3 => ?_
  have := kk p e s m below meth c H1 locs1 ls C g2 g3 h5
  rw [g1] at this
  exact this
theorem wl_new {ci N q idx : Nat} {fs : List Value} (hd : dc code pc (.new idx) 3 nx) (hw : NWp RL idx ci N fs) (hfs : ∀ B, fs.map (pv B) = fs) (hq : h.length = q) (hrc : q + 1 ≤ room_1.cells) (hrs : n + N ≤ room_1.slots) (kk : WL l D b Ln xs lv nx (.ref q :: st) (h ++ [.inr (ci, fs)]) (n + N)) : WL l D b Ln xs lv pc st h n := by
  intro p e s m below meth c H locs ls C h3 h4 h5
  obtain ⟨hd, rfl⟩ := hd
  subst hq
  obtain ⟨hx, hb, hr, hml, hown, hts, hlk, hG, -⟩ := id C
  obtain ⟨C0, T, ty0, w1, w2, w3, w4, w5, w6, w7⟩ := hw
  obtain ⟨hz, ca, hP, hA⟩ := h3
  refine va_new (tys := []) (ci := ci) (fs := fs) hx hb hts w2 ty0 w6 hown (hts _ w3) (hts _ w4) (hts _ w5) hG.1 hP (pW_D s.heap.size ca h) h4 (fun q hq => hq) w1 w7 (by omega) hrs hd fun q H1 g1 g2 g3 => W_size fun hle => ?_
  have e0 : (Sum.inr (ci, fs) : va_E) = pE s.heap.size 0 (.inr (ci, fs)) := by show _ = Sum.inr (ci, fs.map (pv s.heap.size)); rw [hfs]
  rw [e0] at g1 g2
  obtain ⟨rfl, hs⟩ := sim_add (c := .inr (ci, fs)) (cA := 0) hA g1 g2 (by omega) (fun ty a q => by cases q)
  have := kk p e s m below meth c H1 locs ls C hs g3 h5
  rw [show (h ++ [(.inr (ci, fs) : PC)]).length = h.length + 1 by rw [List.length_append, List.length_singleton]] at this
  exact this
theorem wl_dup {v : Value} (hd : dc code pc .dup 1 nx) (hv : v.category = 1) (kk : WL l D b Ln xs lv nx (v :: v :: st) h n) : WL l D b Ln xs lv pc (v :: st) h n := by
  intro p e s m below meth c H locs ls C h3 h4 h5
  obtain ⟨hd, rfl⟩ := hd
  exact lv_dup C.1 C.2.1 hd (by rw [pv_cat]; exact hv) (kk p e s m below meth c H locs ls C h3 h4 h5)
theorem wl_heq (hh : h = h2) (kk : WL l D b Ln xs lv pc st h2 n) : WL l D b Ln xs lv pc st h n := hh ▸ kk
theorem wl_neq {n2 : Nat} (hh : n = n2) (kk : WL l D b Ln xs lv pc st h n2) : WL l D b Ln xs lv pc st h n := hh ▸ kk
theorem wl_iconst {z : Int} {v : Int32} (hd : dc code pc (.iconst z) 1 nx) (hv : Int32.ofInt z = v) (kk : WL l D b Ln xs lv nx (.int v :: st) h n) : WL l D b Ln xs lv pc st h n := by
  intro p e s m below meth c H locs ls C h3 h4 h5
  obtain ⟨hd, rfl⟩ := hd
  exact lv_iconst C.1 C.2.1 hd hv (kk p e s m below meth c H locs ls C h3 h4 h5)
theorem wl_astore {k : Fin 4} {i x : Nat} {lv2 : Nat → List (Nat × Value)} (hd : dc code pc (.astore_n k) 1 nx) (hki : (k : Nat) = i) (hn : i < 4) (hl : ∀ B, (i, Value.ref (B + x)) :: (lv B).filter (fun q => !(q.1 == i) && !(q.1 + 1 == i && q.2.category == 2)) = lv2 B) (kk : WL l D b Ln xs lv2 nx st h n) : WL l D b Ln xs lv pc (.ref x :: st) h n := by
  intro p e s m below meth c H locs ls C h3 h4 h5
  obtain ⟨hd, rfl⟩ := hd
  exact lv_astore_n C.1 C.2.1 hd hki h5 hn (hl _) (fun ls' hl' => kk p e s m below meth c H locs ls' C h3 h4 hl')
theorem wl_istore {k : Fin 4} {i : Nat} {x : Int32} {lv2 : Nat → List (Nat × Value)} (hd : dc code pc (.istore_n k) 1 nx) (hki : (k : Nat) = i) (hn : i < 4) (hl : ∀ B, (i, Value.int x) :: (lv B).filter (fun q => !(q.1 == i) && !(q.1 + 1 == i && q.2.category == 2)) = lv2 B) (kk : WL l D b Ln xs lv2 nx st h n) : WL l D b Ln xs lv pc (.int x :: st) h n := by
  intro p e s m below meth c H locs ls C h3 h4 h5
  obtain ⟨hd, rfl⟩ := hd
  exact lv_istore_n C.1 C.2.1 hd hki h5 hn (hl _) (fun ls' hl' => kk p e s m below meth c H locs ls' C h3 h4 hl')
theorem wl_ifeq_t {x : Int32} {off : Int} {tgt : Nat} (hd : dc code pc (.ifCond .eq off) 3 nx) (ht : (pc : Int) + off = (tgt : Int)) (hx : x = 0) (kk : WL l D b Ln xs lv tgt st h n) : WL l D b Ln xs lv pc (.int x :: st) h n := by
  intro p e s m below meth c H locs ls C h3 h4 h5
  obtain ⟨hd, rfl⟩ := hd
  exact lv_if_eq C.1 C.2.1 hd ht (fun _ => kk p e s m below meth c H locs ls C h3 h4 h5) (fun z => absurd hx z)
theorem wl_ifeq_f {x : Int32} {off : Int} {tgt : Nat} (hd : dc code pc (.ifCond .eq off) 3 nx) (ht : (pc : Int) + off = (tgt : Int)) (hx : ¬ x = 0) (kk : WL l D b Ln xs lv nx st h n) : WL l D b Ln xs lv pc (.int x :: st) h n := by
  intro p e s m below meth c H locs ls C h3 h4 h5
  obtain ⟨hd, rfl⟩ := hd
  exact lv_if_eq C.1 C.2.1 hd ht (fun z => absurd z hx) (fun _ => kk p e s m below meth c H locs ls C h3 h4 h5)
theorem wl_goto {off : Int} {tgt : Nat} (hd : dc code pc (.goto off) 3 nx) (ht : (pc : Int) + off = (tgt : Int)) (kk : WL l D b Ln xs lv tgt st h n) : WL l D b Ln xs lv pc st h n := by
  intro p e s m below meth c H locs ls C h3 h4 h5
  obtain ⟨hd, rfl⟩ := hd
  exact lv_goto C.1 C.2.1 hd ht (kk p e s m below meth c H locs ls C h3 h4 h5)
theorem wl_eq {x : Int32} {off : Int} {tgt : Nat} (hd : dc code pc (.if_icmp .eq off) 3 nx) (ht : (pc : Int) + off = (tgt : Int)) (kk : WL l D b Ln xs lv tgt st h n) : WL l D b Ln xs lv pc (.int x :: .int x :: st) h n := by
  intro p e s m below meth c H locs ls C h3 h4 h5
  obtain ⟨hd, rfl⟩ := hd
  exact lv_icmp_eq C.1 C.2.1 hd ht (fun _ => kk p e s m below meth c H locs ls C h3 h4 h5) (fun z => absurd rfl z)
theorem wl_lcmp {x : Int64} (hd : dc code pc .lcmp 1 nx) (kk : WL l D b Ln xs lv nx (.int 0 :: st) h n) : WL l D b Ln xs lv pc (.long x :: .long x :: st) h n := by
  intro p e s m below meth c H locs ls C h3 h4 h5
  obtain ⟨hd, rfl⟩ := hd
  have := kk p e s m below meth c H locs ls C h3 h4 h5
  rw [← show lg_cmp x x = 0 from lg_0.mpr rfl] at this
  exact W.lcmp C.1 C.2.1 hd this
theorem wl_ldx {i : Int32} (hd : dc code pc (.aload_n 1) 1 nx) (kk : WL l D b Ln xs (lvI b i) nx (.ref 0 :: st) h n) : WL l D b Ln xs (lvI b i) pc st h n := by
  intro p e s m below meth c H locs ls C h3 h4 h5
  obtain ⟨hd, rfl⟩ := hd
  exact lv_aload_n C.1 C.2.1 hd rfl (lv_at h5 2 rfl) (kk p e s m below meth c H locs ls C h3 h4 h5)
theorem wl_ldm {i : Int32} (hd : dc code pc (.aload_n 2) 1 nx) (kk : WL l D b Ln xs (lvI b i) nx (.ref 28 :: st) h n) : WL l D b Ln xs (lvI b i) pc st h n := by
  intro p e s m below meth c H locs ls C h3 h4 h5
  obtain ⟨hd, rfl⟩ := hd
  exact lv_aload_n C.1 C.2.1 hd rfl (lv_at h5 1 rfl) (kk p e s m below meth c H locs ls C h3 h4 h5)
/-- script[i + k] -/
theorem wl_arg {z : Int} (k : Nat) {j p1 p2 p3 p4 : Nat} (hd0 : dc code pc (.aload_n 0) 1 p1) (hd1 : dc code p1 (.iload_n 3) 1 p2) (hd2 : dc code p2 (.iconst z) 1 p3) (hd3 : dc code p3 .iadd 1 p4) (hd4 : dc code p4 .iaload 1 nx) (hz : Int32.ofInt z = nI k) (hj : j + k < Ln) (hL : Ln ≤ 384) (kk : WL l D b Ln xs (lvI b (nI j)) nx (.int (xs (j + k)) :: st) h n) : WL l D b Ln xs (lvI b (nI j)) pc st h n := by
  intro p e s m below meth c H locs ls C h3 h4 h5
  obtain ⟨hd0, rfl⟩ := hd0
  obtain ⟨hd1, rfl⟩ := hd1
  obtain ⟨hd2, rfl⟩ := hd2
  obtain ⟨hd3, rfl⟩ := hd3
  obtain ⟨hd4, rfl⟩ := hd4
  refine lv_aload_n C.1 C.2.1 hd0 rfl (lv_at h5 3 rfl) ?_
  refine lv_iload_n C.1 C.2.1 hd1 rfl (lv_at h5 0 rfl) ?_
  refine lv_iconst C.1 C.2.1 hd2 hz ?_
  refine lv_iadd C.1 C.2.1 hd3 ?_
  rw [nI_add]
  refine va_sld C.1 C.2.1 C.2.2.2.2.2.2.2.2.1 C.2.2.2.2.2.2.2.2.2 (Nat.not_le.mpr C.2.2.2.2.2.2.2.2.2) h4 (vp_in_nI hj (by omega)) hd4 ?_
  rw [nI_clamp (by omega)]
  exact kk p e s m below meth c H locs ls C h3 h4 h5
/-- the loop's head -/
theorem wl_head {j : Nat} (hL : Ln ≤ 384) (hj : j ≤ 400) (kt : Ln < j + 6 → WL l D b Ln xs (lvI b (nI j)) 947 [] h n) (kf : j + 6 ≤ Ln → WL l D b Ln xs (lvI b (nI j)) 27 [] h n) : WL l D b Ln xs (lvI b (nI j)) 18 [] h n := by
  intro p e s m below meth c H locs ls C h3 h4 h5
  refine lv_iload_n C.1 C.2.1 dL_law_18.1 rfl (lv_at h5 0 rfl) ?_
  refine lv_aload_n C.1 C.2.1 dL_law_19.1 rfl (lv_at h5 3 rfl) ?_
  refine va_slen C.1 C.2.1 C.2.2.2.2.2.2.2.2.1 C.2.2.2.2.2.2.2.2.2 (Nat.not_le.mpr C.2.2.2.2.2.2.2.2.2) h4 dL_law_20.1 ?_
  refine lv_bipush (v := nI 6) C.1 C.2.1 dL_law_21.1 (by decide) ?_
  refine lv_isub C.1 C.2.1 dL_law_23.1 ?_
  have e1 : (Int32.ofNat Ln - nI 6).toInt = (Ln : Int) - 6 := pk_sub_toInt (a := Ln) (b := 6) (by omega) (by decide)
  have e2 : (nI j).toInt = (j : Int) := nI_toInt (by omega)
  refine lv_icmp_gt (tgt := 947) C.1 C.2.1 dL_law_24.1 (by decide) (fun z => ?_) (fun z => ?_)
  · rw [Int32.lt_iff_toInt_lt, e1, e2] at z
    exact kt (by omega) p e s m below meth c H locs ls C h3 h4 h5
  · rw [Int32.lt_iff_toInt_lt, e1, e2] at z
    exact kf (by omega) p e s m below meth c H locs ls C h3 h4 h5
/-- which call -/
theorem wl_call {j : Nat} (hL : Ln ≤ 384) (hj : j + 6 ≤ Ln) (kk : ∀ t, t < 32 → WL l D b Ln xs (lvI b (nI j)) 33 [.int (nI t)] h n) : WL l D b Ln xs (lvI b (nI j)) 27 [] h n := by
  intro p e s m below meth c H locs ls C h3 h4 h5
  refine lv_aload_n C.1 C.2.1 dL_law_27.1 rfl (lv_at h5 3 rfl) ?_
  refine lv_iload_n C.1 C.2.1 dL_law_28.1 rfl (lv_at h5 0 rfl) ?_
  refine va_sld C.1 C.2.1 C.2.2.2.2.2.2.2.2.1 C.2.2.2.2.2.2.2.2.2 (Nat.not_le.mpr C.2.2.2.2.2.2.2.2.2) h4 (vp_in_nI (show j < Ln by omega) (by omega)) dL_law_29.1 ?_
  refine lv_bipush (v := 31) C.1 C.2.1 dL_law_30.1 (by decide) ?_
  refine lv_iand C.1 C.2.1 dL_law_32.1 ?_
  obtain ⟨t, ht, et⟩ := pk_andE (xs (nI j).toNatClampNeg) (m := 31) 5 rfl
  rw [et]
  exact kk t ht p e s m below meth c H locs ls C h3 h4 h5
theorem wl_tin {i : Int32} {t tgt : Nat} {off : Int} (ht : t < 28) (ho : (#[127, 170, 223, 246, 259, 272, 295, 308, 341, 364, 387, 400, 433, 466, 489, 502, 535, 568, 601, 624, 673, 686, 709, 732, 796, 839, 862, 885] : Array Int)[t]? = some off) (htg : (33 : Int) + off = (tgt : Int)) (kk : WL l D b Ln xs (lvI b i) tgt [] h n) : WL l D b Ln xs (lvI b i) 33 [.int (nI t)] h n := by
  intro p e s m below meth c H locs ls C h3 h4 h5
  have e2 : (nI t).toInt = (t : Int) := nI_toInt (by omega)
  exact lv_tableIn C.1 C.2.1 dL_law_33.1 (by rw [e2]; omega) (by rw [e2]; omega) (by rw [e2, show ((t : Int) - 0).toNat = t by omega]; exact ho) htg (kk p e s m below meth c H locs ls C h3 h4 h5)
theorem wl_tout {i : Int32} {t : Nat} (ht : 28 ≤ t) (ht2 : t < 32) (kk : WL l D b Ln xs (lvI b i) 941 [] h n) : WL l D b Ln xs (lvI b i) 33 [.int (nI t)] h n := by
  intro p e s m below meth c H locs ls C h3 h4 h5
  have e2 : (nI t).toInt = (t : Int) := nI_toInt (by omega)
  exact lv_tableOut C.1 C.2.1 dL_law_33.1 (Or.inr (by rw [e2]; omega)) (by decide) (kk p e s m below meth c H locs ls C h3 h4 h5)
theorem wl_inc {j : Nat} (kk : WL l D b Ln xs (lvI b (nI (j + 6))) 18 [] h n) : WL l D b Ln xs (lvI b (nI j)) 941 [] h n := by
  intro p e s m below meth c H locs ls C h3 h4 h5
  refine lv_iinc (k := 0) (v := nI (j + 6)) C.1 C.2.1 dL_law_941.1 h5 rfl (by rw [show Int32.ofInt 6 = nI 6 by decide, nI_add]) (by decide) rfl (fun ls hl => ?_)
  refine lv_goto (tgt := 18) C.1 C.2.1 dL_law_944.1 (by decide) ?_
  exact kk p e s m below meth c H locs ls C h3 h4 hl
theorem wl_end {i : Int32} (hh : h.length ≤ 600000) (hn : n ≤ 7302250) : WL l D b Ln xs (lvI b i) 947 [] h n := by
  intro p e s m below meth c H locs ls C h3 h4 h5
  refine lv_iconst (v := 1) C.1 C.2.1 dL_law_947.1 (by decide) ?_
  refine W.widen (k := 600000) (n := 7302250) hh hn ?_
  refine va_forget (fun q hq => h4.2.2 q hq) ?_
  exact lw_ret C.1 C.2.1 C.2.2.1 C.2.2.2.2.2.2.1 dL_law_948.1
end WLS
