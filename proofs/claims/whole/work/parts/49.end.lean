theorem nest_on {w : Cond} (h : isNest w = true) : w.onTables = true := by
  cases w <;> first | rfl | (simp [isNest] at h)
theorem was_at : ∀ j, j < 8 → was0 8 j = -6 := by decide +kernel
theorem hit_at : ∀ j, j < 6 → hit0 6 j = 1 := by decide +kernel
theorem bk_at : ∀ j, j < 96 → bk0 8 j = if 16 ≤ j ∧ j < 24 then -6 else 0 := by decide +kernel
theorem inv_0 : Inv (XM w0 (fun _ => none) (fun _ => 0) 0 (w0, 0, -6, -6, 0, -6, 0, 0, 0, 0) (fun _ => 0) (fun _ => 0) 0 M0 []) 2063 := by
  refine ⟨w0, _, _, _, _, _, _, _, M0, [], fun _ => w0, rfl, ⟨⟨⟨⟨fun j hj => ⟨?_, ?_, ?_⟩, fun j hj => ?_, fun j hj => ?_, ?_, ?_⟩, ⟨fun j hj => ⟨⟨0, by decide, rfl⟩, ⟨0, by decide, rfl⟩, Or.inl (was_at j hj)⟩, fun j hj => ⟨0, by decide, rfl⟩, fun j hj => ⟨⟨0, by decide, rfl⟩, ⟨1, by decide, hit_at j hj⟩, ⟨0, by decide, rfl⟩⟩, ⟨0, by decide, rfl⟩, ⟨0, by decide, rfl⟩⟩, fun r c _ _ _ => rfl⟩, fun j hj => ⟨rfl, rfl⟩, 0, by decide, rfl, rfl, fun i hi => absurd hi (by omega), fun i hi => absurd hi (by omega), 0, by decide, rfl⟩, ⟨0, by decide, rfl, rfl, fun i hi => absurd hi (by omega)⟩, fun x _ _ => rfl, fun x _ _ => rfl, fun k hk => Or.inl ⟨rfl, rfl⟩⟩, Or.inl ⟨rfl, rfl, rfl⟩, by decide⟩
  · show bk0 8 j = 0
    rw [bk_at j (by omega), if_neg (by omega)]
  · show bk0 8 (8 + j) = 0
    rw [bk_at _ (by omega), if_neg (by omega)]
  · show bk0 8 (16 + j) = was0 8 j
    rw [bk_at _ (by omega), if_pos (by omega), was_at j hj]
  · show bk0 8 (24 + j) = 0
    rw [bk_at _ (by omega), if_neg (by omega)]
  · show bk0 8 (88 + j) = 0
    rw [bk_at _ (by omega), if_neg (by omega)]
  · show bk0 8 94 = 0
    rw [bk_at _ (by omega), if_neg (by omega)]
  · show bk0 8 95 = 0
    rw [bk_at _ (by omega), if_neg (by omega)]
section LAWL
variable {l : Launch} {D : va_G} {b Ln : Nat} {xs : Nat → Int32} {h : PH} {n : Nat}
theorem law_loop (hL : Ln ≤ 384) : ∀ (k j : Nat) (h : PH) (n : Nat), Ln ≤ j + 6 * k → j ≤ 390 → Inv h n → WL l D b Ln xs (lvI b (nI j)) 18 [] h n
  | 0, j, h, n, hk, hj, hI => by
    refine wl_head hL (by omega) (fun _ => ?_) (fun z => absurd z (by omega))
    obtain ⟨a1, a2⟩ := hI.len
    exact wl_end (by omega) (by omega)
  | k + 1, j, h, n, hk, hj, hI => by
    refine wl_head hL (by omega) (fun _ => ?_) (fun hj6 => ?_)
    · obtain ⟨a1, a2⟩ := hI.len
      exact wl_end (by omega) (by omega)
    · have K : ∀ h2 n2, Inv h2 n2 → WL l D b Ln xs (lvI b (nI j)) 941 [] h2 n2 := fun h2 n2 hI2 => wl_inc (law_loop hL k (j + 6) h2 n2 (by omega) (by omega) hI2)
      refine wl_call hL hj6 (fun t ht => ?_)
      rcases (show t = 0 ∨ t = 1 ∨ t = 2 ∨ t = 3 ∨ t = 4 ∨ t = 5 ∨ t = 6 ∨ t = 7 ∨ t = 8 ∨ t = 9 ∨ t = 10 ∨ t = 11 ∨ t = 12 ∨ t = 13 ∨ t = 14 ∨ t = 15 ∨ t = 16 ∨ t = 17 ∨ t = 18 ∨ t = 19 ∨ t = 20 ∨ t = 21 ∨ t = 22 ∨ t = 23 ∨ t = 24 ∨ t = 25 ∨ t = 26 ∨ t = 27 ∨ 28 ≤ t by omega) with rfl | rfl | rfl | rfl | rfl | rfl | rfl | rfl | rfl | rfl | rfl | rfl | rfl | rfl | rfl | rfl | rfl | rfl | rfl | rfl | rfl | rfl | rfl | rfl | rfl | rfl | rfl | rfl | h28
      · exact wl_tin (tgt := 160) (by decide) rfl (by decide) (lc_birth hL hj6 hI K)
      · exact wl_tin (tgt := 203) (by decide) rfl (by decide) (lc_box hL hj6 hI K)
      · exact wl_tin (tgt := 256) (by decide) rfl (by decide) (lc_say hL hj6 hI K)
      · exact wl_tin (tgt := 279) (by decide) rfl (by decide) (lc_wipe hL hj6 hI K)
      · exact wl_tin (tgt := 292) (by decide) rfl (by decide) (lc_fault hL hj6 hI K)
      · exact wl_tin (tgt := 305) (by decide) rfl (by decide) (lc_judge hL hj6 hI K)
      · exact wl_tin (tgt := 328) (by decide) rfl (by decide) (lc_done hL hj6 hI K)
      · exact wl_tin (tgt := 341) (by decide) rfl (by decide) (lc_behind hL hj6 hI K)
      · exact wl_tin (tgt := 374) (by decide) rfl (by decide) (lc_then hL hj6 hI K)
      · exact wl_tin (tgt := 397) (by decide) rfl (by decide) (lc_opens hL hj6 hI K)
      · exact wl_tin (tgt := 420) (by decide) rfl (by decide) (lc_two hL hj6 hI K)
      · exact wl_tin (tgt := 433) (by decide) rfl (by decide) (lc_chain hL hj6 hI K)
      · exact wl_tin (tgt := 466) (by decide) rfl (by decide) (lc_owes hL hj6 hI K)
      · exact wl_tin (tgt := 499) (by decide) rfl (by decide) (lc_netted hL hj6 hI K)
      · exact wl_tin (tgt := 522) (by decide) rfl (by decide) (lc_rings hL hj6 hI K)
      · exact wl_tin (tgt := 535) (by decide) rfl (by decide) (lc_note hL hj6 hI K)
      · exact wl_tin (tgt := 568) (by decide) rfl (by decide) (lc_only hL hj6 hI K)
      · exact wl_tin (tgt := 601) (by decide) rfl (by decide) (lc_share hL hj6 hI K)
      · exact wl_tin (tgt := 634) (by decide) rfl (by decide) (lc_match hL hj6 hI K)
      · exact wl_tin (tgt := 657) (by decide) rfl (by decide) (lc_seen hL hj6 hI K)
      · exact wl_tin (tgt := 706) (by decide) rfl (by decide) (lc_forget hL hj6 hI K)
      · exact wl_tin (tgt := 719) (by decide) rfl (by decide) (lc_laws hL hj6 hI K)
      · exact wl_tin (tgt := 742) (by decide) rfl (by decide) (lc_next hL hj6 hI K)
      · exact wl_tin (tgt := 765) (by decide) rfl (by decide) (lc_chance hL hj6 hI K)
      · exact wl_tin (tgt := 829) (by decide) rfl (by decide) (lc_book hL hj6 hI K)
      · exact wl_tin (tgt := 872) (by decide) rfl (by decide) (lc_image hL hj6 hI K)
      · exact wl_tin (tgt := 895) (by decide) rfl (by decide) (lc_restore hL hj6 hI K)
      · exact wl_tin (tgt := 918) (by decide) rfl (by decide) (lc_told hL hj6 hI K)
      · exact wl_tout h28 ht (K h n hI)
theorem law_start (hL : Ln ≤ 384) : WL l D b Ln xs (fun _ => [(0, .ref b)]) 0 [] [] 0 := by
  refine wl_new (q := 0) dL_law_0 n_L_7 (fun _ => rfl) rfl (by decide) (by decide) ?_
  refine wl_dup dL_law_3 rfl ?_
  refine wl_callI (st := [.ref 0]) dL_law_4 k_L_9 pm_X6_init rfl rfl (by decide) (by decide) (by decide) (by decide) ?_
  refine wl_astore (i := 1) (lv2 := fun B => [(1, .ref (B + 0)), (0, .ref b)]) dL_law_7 rfl (by decide) (fun _ => rfl) ?_
  refine wl_new (q := 28) dL_law_8 n_L_10 (fun _ => rfl) rfl (by decide) (by decide) ?_
  refine wl_dup dL_law_11 rfl ?_
  refine wl_callI (st := [.ref 28]) dL_law_12 k_L_12 pm_X7_init rfl rfl (by decide) (by decide) (by decide) (by decide) ?_
  refine wl_astore (i := 2) (lv2 := fun B => [(2, .ref (B + 28)), (1, .ref (B + 0)), (0, .ref b)]) dL_law_15 rfl (by decide) (fun _ => rfl) ?_
  refine wl_iconst (v := nI 0) dL_law_16 (by decide) ?_
  refine wl_istore (i := 3) (lv2 := lvI b (nI 0)) dL_law_17 rfl (by decide) (fun _ => rfl) ?_
  refine wl_heq (h2 := XM w0 (fun _ => none) (fun _ => 0) 0 (w0, 0, -6, -6, 0, -6, 0, 0, 0, 0) (fun _ => 0) (fun _ => 0) 0 M0 []) rfl ?_
  refine wl_neq (n2 := 2063) (by decide) ?_
  exact law_loop hL 64 0 _ _ (by omega) (by decide) inv_0
end LAWL
theorem whole_start {p : Program} {e : Env} {s : State} {m : MethodId} {below : List Frame} {meth : Method} {c : Code} (l : Launch) {b L : Nat} {xs : Nat → Int32} (hL : L ≤ 384) (C0 : lw_At p s m meth c b L xs) : W p l e room_1 s m #[Value.ref b] below meth c s.heap [] 0 0 (lw_Z below #[Value.ref b] s) (entryFrame m ([Value.ref b] : List Value).toArray 4) := by
  obtain ⟨hx, hb, hr, hml, hown, hts, hX, hbl, hlocks, hgv⟩ := id C0
  have htp : ∀ w ∈ pTb, w.before #[Value.ref b] s = true := fun w hw => hts w (List.mem_filter.mp hw).1
  obtain ⟨c0, i0, hK0⟩ := u_known (C := RX0) (T := TX0) (N := 4) (n := 4) htp iX0 (hts (.instantiable RX0 4) (by decide +kernel))
  obtain ⟨c1, i1, hK1⟩ := u_known (C := RX1) (T := TX1) (N := 2) (n := 2) htp iX1 (hts (.instantiable RX1 2) (by decide +kernel))
  obtain ⟨c2, i2, hK2⟩ := u_known (C := RX2) (T := TX2) (N := 1) (n := 1) htp iX2 (hts (.instantiable RX2 1) (by decide +kernel))
  obtain ⟨c3, i3, hK3⟩ := u_known (C := RX3) (T := TX3) (N := 2) (n := 2) htp iX3 (hts (.instantiable RX3 2) (by decide +kernel))
  obtain ⟨c4, i4, hK4⟩ := u_known (C := RX4) (T := TX4) (N := 7) (n := 7) htp iX4 (hts (.instantiable RX4 7) (by decide +kernel))
  obtain ⟨c5, i5, hK5⟩ := u_known (C := RX5) (T := TX5) (N := 12) (n := 12) htp iX5 (hts (.instantiable RX5 12) (by decide +kernel))
  obtain ⟨c6, i6, hK6⟩ := u_known (C := RX6) (T := TX6) (N := 6) (n := 6) htp iX6 (hts (.instantiable RX6 6) (by decide +kernel))
  obtain ⟨c7, i7, hK7⟩ := u_known (C := RX7) (T := TX7) (N := 17) (n := 17) htp iX7 (hts (.instantiable RX7 17) (by decide +kernel))
  obtain ⟨D, hKD⟩ : ∃ D : va_G, va_K D vwCl [] s := by
    refine ⟨(fun k => if k = 0 then c0 else if k = 1 then c1 else if k = 2 then c2 else if k = 3 then c3 else if k = 4 then c4 else if k = 5 then c5 else if k = 6 then c6 else c7, fun k => if k = 0 then i0 else if k = 1 then i1 else if k = 2 then i2 else if k = 3 then i3 else if k = 4 then i4 else if k = 5 then i5 else if k = 6 then i6 else i7), ?_, fun k q h => by simp at h⟩
    intro k q hq
    match k, hq with
    | 0, hq => cases hq; exact hK0
    | 1, hq => cases hq; exact hK1
    | 2, hq => cases hq; exact hK2
    | 3, hq => cases hq; exact hK3
    | 4, hq => cases hq; exact hK4
    | 5, hq => cases hq; exact hK5
    | 6, hq => cases hq; exact hK6
    | 7, hq => cases hq; exact hK7
    | k + 8, hq => simp [vwCl] at hq
  have hG : pG D s := ⟨hKD, fun w hw => va_Nw.of (nest_on (List.mem_filter.mp hw).2) (hts w (List.mem_filter.mp hw).1), va_AO.of (hts _ ao_W)⟩
  have hl := lv_entry ([.ref b]) (n := 4) (Nat.le_of_ble_eq_true rfl)
  rw [lg_entry_eq]
  refine law_start (l := l) (D := D) (xs := xs) hL p e s m below meth c s.heap [] _ ⟨hx, hb, hr, hml, hown, htp, hlocks, hG, hX, hbl⟩ ⟨rfl, fun _ => 0, fun k q h => by simp [pW] at h, fun i ty a h => by simp at h⟩ va_S.rf hl
set_option maxHeartbeats 4000000 in
theorem lw_walk (l : Launch) (b : Addr) (xs : List Int32) : MetFree l x (headSpec (Jvm.Cond.code x code maxLocals ret :: tables_1) room_1) (lw_P b xs) (fun _ _ _ _ _ => True) lw_Q := by
  refine MetFree.of_bodyS (code := code) (maxLocals := maxLocals) (ret := ret) (by decide) ?_ ?_
  · intro args s m h hn
    obtain ⟨meth, c, h1, h2, h3, h4, h5, h6, -, -⟩ := Cond.code_spec hn (atoms_spec (ws := Jvm.Cond.code x code maxLocals ret :: tables_1) h _ List.mem_cons_self)
    exact ⟨meth, c, h1, h2, h3, h4, h5, h6⟩
  · intro p e s m args below meth c s₁ B hml0 hP _
    obtain ⟨rfl, hx, hbd, hgv⟩ := hP
    obtain ⟨scr, harrAt, hlist, hof, hsmall⟩ := hx
    obtain ⟨hcb, hkn, -, -⟩ := State.arrayAt?_spec harrAt
    have hown : s.vm.findClass R_law = some m.cls := findClass_of_methodNamed B.named
    have hts0 : ∀ c ∈ (Jvm.Cond.code x code maxLocals ret :: tables_1), c.before #[Value.ref b] s = true := atoms_spec (ws := Jvm.Cond.code x code maxLocals ret :: tables_1) B.pre
    have hts : ∀ w ∈ lw_tbl, w.before #[Value.ref b] s = true := k2_hts_sels lw_privs (fun w hw => hts0 w (List.mem_cons_of_mem _ hw)) lw_privs_ok
    have hml : c.maxLocals = 4 := B.maxLocals_eq (hts0 _ List.mem_cons_self)
    have X₀ : Stand p l e room_1 s m #[Value.ref b] below meth c s₁ [] 0 0 := Stand.of_body B
    have hh0 : s₁.heap = s.heap := by rw [B.state]; rfl
    have hsz : scr.slots.size = xs.length := by rw [← Array.length_toList, hlist, List.length_map]
    have hval : ∀ j : Nat, j < xs.length → scr.slots[j]? = some (.int (xs.getD j 0)) := fun j hj => by
      rw [← Array.getElem?_toList, hlist]
      simp [hj]
    have hbl : b < s.heap.size := (Array.getElem?_eq_some_iff.mp hcb).1
    have hX : va_X b xs.length (fun j => xs.getD j 0) s s.heap := ⟨scr, hcb, hof, hkn, hsz, hval⟩
    have K : W p l e room_1 s m #[Value.ref b] below meth c s₁.heap [] 0 0 (lw_Z below #[Value.ref b] s) (entryFrame m ([Value.ref b] : List Value).toArray 4) := by
      rw [hh0]
      exact whole_start l hbd ⟨B.exec, B.bytes, B.returns, hml, hown, hts, hX, hbl, B.notSynchronized, hgv⟩
    obtain ⟨t, a1, o, b1, b2, b3⟩ := K s₁ rfl X₀
    exact ⟨t, o, a1, b1, b2, b3⟩
theorem lw_pre_spec {args : Array Value} {s : State} (h : (Jvm.Cond.and given_1 narrow_1).before args s = true) (hr : rest_1_c.before args s = true) : ∃ (b : Addr) (xs : List Int32), lw_P b xs args s := by
  have hs := flat_of_before _ h
  have hq := flat_of_before _ hr
  have hc : (Cond.count 1).before args s = true := hs _ (by decide +kernel)
  have harr : (Cond.arrayOf (.arg 0) .int).before args s = true := hs _ (by decide +kernel)
  have hle : (Cond.le (.length (.arg 0)) (.int 384)).before args s = true := hs _ (by decide +kernel)
  have hlen : (Cond.isInt (.length (.arg 0))).before args s = true := hq _ (by decide +kernel)
  have hall : (Cond.all (.arg 0) (.isInt (.elem (.arg 0) (.index 0)))).before args s = true := hq _ (by decide +kernel)
  obtain ⟨b, xs, hb, hx⟩ := State.ints_of_pre rfl harr hlen hall
  have hsm : xs.length < 2 ^ 31 := hx.choose_spec.2.2.2
  have hev : (Term.length (.arg 0)).eval args s none [] s = some (.int xs.length.toInt32) := hx.length_eval hb
  have hv := Cond.le_ints hev (show (Term.int 384).eval args s none [] s = some (.int 384) from rfl)
  have hd : xs.length.toInt32 ≤ 384 := by
    simpa [Cond.before, Cond.holds, hv] using hle
  have hN : xs.length ≤ 384 := (Int32.ofNat_le_ofNat hsm (by decide)).mp (show Int32.ofNat xs.length ≤ Int32.ofNat 384 from hd)
  exact ⟨b, xs, Cond.one_arg hc (show args[0]? = some (.ref b) from hb), hx, hN, h⟩
theorem lw_comes (l : Launch) : Comes l x (Jvm.Cond.code x code maxLocals ret :: tables_1) room_1 (fun tb e args s => Calls_1 tb e args s ∧ rest_1 tb e args s ∧ Pre_1 tb e args s)
    (fun _ _ args s o t => lw_Q args s o t) := by
  intro p e ha hc hk s m args below hf hfit hheap happ hpre
  obtain ⟨b, xs, hP⟩ := lw_pre_spec hpre.2.2 hpre.2.1
  obtain ⟨k, o, h1, h2, h3, hQ⟩ := lw_walk l b xs p e ha hc hk s m args below hf ((Spec.applies_iff_loose hf).mp happ).1 hP trivial
  exact ⟨k, o, h1, h2, h3, hQ⟩
theorem lw_frame {s t : State} {o : Outcome} {args : Array Value} (h : Framed s o t [] 600000 7302250) :
    Framed s o t (fieldLocs frame_1_writes args s ++ arrayLocs frame_1_arrays args s ++ staticLocs frame_1_statics s) 600000 7302250 := h
theorem lw_limb (L : Cond) (hL : ∀ (args : Array Value) (s t : State), L.after args s (.returned (some (.int 1))) t = true) :
    ArmFor flags0 classFile x code maxLocals ret World_1 tables_1 room_1 Calls_1 rest_1 Pre_1
      (fun tb e a s o t => postC L tb e a s o t ∧ Framed s o t (fieldLocs frame_1_writes a s ++ arrayLocs frame_1_arrays a s ++ staticLocs frame_1_statics s) 600000 7302250) := by
  intro l _ _ _ p e ha hc hk s m args below hf hfit hheap happ hpre
  obtain ⟨k, o, h1, h2, h3, rfl, hF⟩ := lw_comes l p e ha hc hk s m args below hf hfit hheap happ hpre
  exact ⟨k, _, h1, h2, h3, hL args s _, lw_frame hF⟩
theorem i_vc : Claimed_1_1 ∧ Claimed_1_2 := ⟨lw_limb limb_1_1 (fun args s t => by simp [limb_1_1, Cond.after, Cond.holds, Cond.value]), lw_limb limb_1_2 (fun args s t => Cond.after_iff.mpr (by
  first | (rw [show limb_1_2 = Cond.eq .result (.int 1) from rfl, Cond.eq_ints (x := 1) (y := 1) rfl rfl]; simp; done) | (simp [limb_1_2, Cond.value, Term.eval]; done)))⟩
