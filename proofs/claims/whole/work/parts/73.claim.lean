/-! from the entry to the loop, and the claim -/
set_option maxHeartbeats 40000000 in
set_option maxRecDepth 100000 in
theorem whole_start {p : Program} {e : Env} {s : State} {m : MethodId} {below : List Frame} {meth : Method} {c : Code} (l : Launch) (hfl : l.flags = flags0) {sb Ls : Nat} {xs : Nat → Int32} (hL : Ls ≤ 2048) (C0 : lw_At p s m meth c sb Ls xs) : W p l e room_1 s m #[Value.ref sb] below meth c s.heap [] 0 0 (lw_Z below #[Value.ref sb] s) (entryFrame m ([Value.ref sb] : List Value).toArray 7) := by
  obtain ⟨hx, hb, hr, hml, hown, hts0, hXs, hbl, hlocks, hgv⟩ := C0
  have hown : s.vm.findClass "RouteDeskLaw" = some m.cls := hown
  have hts := st_ts hts0
  obtain ⟨D, G, M0, hE, hP, g0, g1, g2, g3, g4⟩ := st_E hts0 hgv
  obtain ⟨B, hBe⟩ : ∃ z, z = s.heap.size := ⟨_, rfl⟩
  rw [← hBe] at hE
  obtain ⟨R, hRR⟩ : ∃ R : Room, R = room_1 := ⟨_, rfl⟩
  rw [← hRR]
  have hRf : R.frames = 2048 := by rw [hRR]; rfl
  have hRl : R.locals = 84000 := by rw [hRR]; rfl
  have hRc : R.cells = 601024 := by rw [hRR]; rfl
  have hRs : R.slots = 7293034 := by rw [hRR]; rfl
  have hS : va_S (hm_A B) s.heap s.heap [] := va_S.rf
  have hl := lv_entry ([.ref sb]) (n := 7) (Nat.le_of_ble_eq_true rfl)
  rw [lg_entry_eq]
  generalize (lg_sl ([.ref sb]) ++ List.replicate (7 - (lg_sl ([.ref sb])).length) Slot.unset).toArray = ls at hl ⊢
  have hl : lv_has ls 7 [(0, .ref sb)] := hl
  refine hm_new (n := 6) (ci := 0) (fs := [.null, .null, .null, .null, .null, .null]) (C := rn_RD) (T := ft_RD) (N := 6) hx hb hts fi_RD fy_RD fo_RD hown (hts _ tw_68) (hts _ tw_69) (hts _ tw_36) hE.K hP hS rfl (fun j hj => by match j, hj with | 0, _ => rfl | 1, _ => rfl | 2, _ => rfl | 3, _ => rfl | 4, _ => rfl | 5, _ => rfl | j + 6, hj => exact absurd hj (by omega)) (by omega) (by omega) dd_LW_law_0 (fun q1 H hB_q1 hn_q1 hP hS => ?_)
  have hA_q1 : hm_A B q1 := Nat.le_trans hE.2.1 hB_q1
  obtain ⟨M2, eM2⟩ : ∃ z, z = hm_up M0 q1 (.inr (0, [.null, .null, .null, .null, .null, .null])) := ⟨_, rfl⟩
  rw [← eM2] at hP
  have ne3 : (G 0) ≠ q1 := hm_neN g0 hn_q1
  have f4 : M2 (G 0) = some (.inl (D.1 104, 0, .inr (.inr (.inr (.inr (fun _ => none)))))) := by rw [eM2]; exact hm_up_o ne3 g0
  have f5 : M2 q1 = some (.inr (0, [.null, .null, .null, .null, .null, .null])) := by rw [eM2]; exact hm_up_s
  refine W.widen (k := 1) (n := 6) (by omega) (by omega) ?_
  refine lv_dup hx hb dd_LW_law_3 rfl ?_
  refine hm_cv hS (hm_rI 0 (As := []) (rest := [.ref q1]) ⟨hx, hb, hml, hown, hts⟩ hE hS hP (kc_RD_init l B D G M2 q1 f5 hA_q1 f4) tw_72 tw_70 tw_71 tw_36 rfl (by decide +kernel) rfl rfl ⟨by show 5 + 1 ≤ R.frames; omega, by show 8 + (1 + 11) + 92 ≤ R.locals; omega⟩ rfl hl.1 rfl (Nat.le_of_ble_eq_true rfl) dd_LW_law_4 ⟨by omega, by omega⟩) (fun M7 H locs hw8 hP hS => ?_)
  refine W.widen (k := 13) (n := 306) (by omega) (by omega) ?_
  obtain ⟨N, v, ⟨hN0, n0⟩, n1, n2, n3, n4, n5, n6, n7, n8, n9, n10, hn, hv, hnv, hnn, hk⟩ := hw8
  refine lv_astore_n (lv' := [(1, .ref q1), (0, .ref sb)]) hx hb dd_LW_law_7 rfl hl (by decide) rfl (fun ls hl => ?_)
  refine hm_new (n := 22) (ci := 6) (fs := [.int (nI 0), .null, .int (nI 0), .null, .null, .null, .int (nI 0), .null, .null, .null, .null, .null, .int (nI 0), .int (nI 0), .null, .null, .null, .null, .int (nI 0), .null, .null, .null]) (C := rn_MO) (T := ft_MO) (N := 22) hx hb hts fi_MO fy_MO fo_MO hown (hts _ tw_980) (hts _ tw_981) (hts _ tw_46) hE.K hP hS rfl (fun j hj => by match j, hj with | 0, _ => rfl | 1, _ => rfl | 2, _ => rfl | 3, _ => rfl | 4, _ => rfl | 5, _ => rfl | 6, _ => rfl | 7, _ => rfl | 8, _ => rfl | 9, _ => rfl | 10, _ => rfl | 11, _ => rfl | 12, _ => rfl | 13, _ => rfl | 14, _ => rfl | 15, _ => rfl | 16, _ => rfl | 17, _ => rfl | 18, _ => rfl | 19, _ => rfl | 20, _ => rfl | 21, _ => rfl | j + 22, hj => exact absurd hj (by omega)) (by omega) (by omega) dd_LW_law_8 (fun q9 H hB_q9 hn_q9 hP hS => ?_)
  have hA_q9 : hm_A B q9 := Nat.le_trans hE.2.1 hB_q9
  obtain ⟨M10, eM10⟩ : ∃ z, z = hm_up M7 q9 (.inr (6, [.int (nI 0), .null, .int (nI 0), .null, .null, .null, .int (nI 0), .null, .null, .null, .null, .null, .int (nI 0), .int (nI 0), .null, .null, .null, .null, .int (nI 0), .null, .null, .null])) := ⟨_, rfl⟩
  rw [← eM10] at hP
  have f11 : M10 q9 = some (.inr (6, [.int (nI 0), .null, .int (nI 0), .null, .null, .null, .int (nI 0), .null, .null, .null, .null, .null, .int (nI 0), .int (nI 0), .null, .null, .null, .null, .int (nI 0), .null, .null, .null])) := by rw [eM10]; exact hm_up_s
  refine W.widen (k := 14) (n := 328) (by omega) (by omega) ?_
  refine lv_dup hx hb dd_LW_law_11 rfl ?_
  refine hm_cv hS (hm_rI 0 (As := []) (rest := [.ref q9]) ⟨hx, hb, hml, hown, hts⟩ hE hS hP (kc_MO_init l B D G M10 q9 f11 hA_q9) tw_984 tw_982 tw_983 tw_46 rfl (by decide +kernel) rfl rfl ⟨by show 1 + 1 ≤ R.frames; omega, by show 8 + (2 + 11) + 12 ≤ R.locals; omega⟩ rfl hl.1 rfl (Nat.le_of_ble_eq_true rfl) dd_LW_law_12 ⟨by omega, by omega⟩) (fun M13 H locs hw14 hP hS => ?_)
  refine W.widen (k := 30) (n := 9341) (by omega) (by omega) ?_
  obtain ⟨P, Om, I, A, L, hP0, hD, hS0, hOz, hun, hF⟩ := hw14
  refine lv_astore_n (lv' := [(2, .ref q9), (1, .ref q1), (0, .ref sb)]) hx hb dd_LW_law_15 rfl hl (by decide) rfl (fun ls hl => ?_)
  refine lv_iconst (v := nI 1) hx hb dd_LW_law_16 (by decide +kernel) ?_
  refine hm_newa (atype := .long) (ty := .long) (N' := 1) (a0 := (1, .inr (.inl (fun _ => 0)))) hx hb (hts _ tw_1053) rfl hE.K hP hS 3 rfl (fun _ h9 => by cases h9) rfl (nI_pos (by omega)) (nI_clamp (by omega)) (by show _ * _ ≤ _; simp only [componentBytes]; omega) (by omega) (by omega) dd_LW_law_17 (fun q15 H hB_q15 hn_q15 hP hS => ?_)
  have hA_q15 : hm_A B q15 := Nat.le_trans hE.2.1 hB_q15
  obtain ⟨M16, eM16⟩ : ∃ z, z = hm_up M13 q15 (.inl (D.1 103, 1, .inr (.inl (fun _ => 0)))) := ⟨_, rfl⟩
  rw [← eM16] at hP
  have f17 : M16 q15 = some (.inl (D.1 103, 1, .inr (.inl (fun _ => 0)))) := by rw [eM16]; exact hm_up_s
  refine W.widen (k := 31) (n := 9342) (by omega) (by omega) ?_
  refine lv_astore_n (lv' := [(3, .ref q15), (2, .ref q9), (1, .ref q1), (0, .ref sb)]) hx hb dd_LW_law_19 rfl hl (by decide) rfl (fun ls hl => ?_)
  refine lv_iconst (v := nI 0) hx hb dd_LW_law_20 (by decide +kernel) ?_
  refine lv_istore (lv' := [(4, .int (nI 0)), (3, .ref q15), (2, .ref q9), (1, .ref q1), (0, .ref sb)]) hx hb dd_LW_law_21 hl (by decide) rfl (fun ls hl => ?_)
  have hJ := st_J g0 g1 g2 g3 g4 hn_q1 eM2 hN0 n0 n1 n2 n3 n4 n5 n6 n7 n8 n9 n10 hn hv hnv hnn hk hn_q9 eM10 hP0 hD hS0 hOz hun hF hn_q15 eM16
  have hl := lv_sub hl [4, 3, 2, 1, 0] rfl
  rw [← hN0, ← hP0] at hl
  subst hRR
  refine W.widen (k := 40) (n := 10000) (by omega) (by omega) ?_
  exact lw_loop l hfl hL hx hb hr hml hown hts hXs hbl hlocks hE (fun h9 => absurd h9 (by rw [hm_A, hBe]; omega)) (Nat.le_of_eq hBe.symm) N P q15 hA_q15 M16 hJ _ _ _ hP hS hl
set_option maxHeartbeats 4000000 in
theorem lw_walk (l : Launch) (hfl : l.flags = flags0) (b : Addr) (xs : List Int32) : MetFree l x (headSpec (Jvm.Cond.code x code maxLocals ret :: tables_1) room_1) (lw_P b xs) (fun _ _ _ _ _ => True) lw_Q := by
  refine MetFree.of_bodyS (code := code) (maxLocals := maxLocals) (ret := ret) (by decide) ?_ ?_
  · intro args s m h hn
    obtain ⟨meth, c, h1, h2, h3, h4, h5, h6, -, -⟩ := Cond.code_spec hn (atoms_spec (ws := Jvm.Cond.code x code maxLocals ret :: tables_1) h _ List.mem_cons_self)
    exact ⟨meth, c, h1, h2, h3, h4, h5, h6⟩
  · intro p e s m args below meth c s₁ B hml0 hP _
    obtain ⟨rfl, hx, hbd, hgv⟩ := hP
    obtain ⟨scr, harrAt, hlist, hof, hsmall⟩ := hx
    obtain ⟨hcb, hkn, -, -⟩ := State.arrayAt?_spec harrAt
    have hown : s.vm.findClass R_law = some m.cls := findClass_of_methodNamed B.named
    have hts0 : ∀ c ∈ (Jvm.Cond.code x code maxLocals ret :: tables_1), c.before #[Value.ref b] s = true := atoms_spec (ws := Jvm.Cond.code x code maxLocals ret :: tables_1) B.pre
    have hts : ∀ w ∈ lw_tbl, w.before #[Value.ref b] s = true := k2_hts_sels lw_privs (fun w hw => hts0 w (List.mem_cons_of_mem _ hw)) lw_privs_ok
    have hml : c.maxLocals = 7 := B.maxLocals_eq (hts0 _ List.mem_cons_self)
    have X₀ : Stand p l e room_1 s m #[Value.ref b] below meth c s₁ [] 0 0 := Stand.of_body B
    have hh0 : s₁.heap = s.heap := by rw [B.state]; rfl
    have hsz : scr.slots.size = xs.length := by rw [← Array.length_toList, hlist, List.length_map]
    have hval : ∀ j : Nat, j < xs.length → scr.slots[j]? = some (.int (xs.getD j 0)) := fun j hj => by
      rw [← Array.getElem?_toList, hlist]
      simp [hj]
    have hbl : b < s.heap.size := (Array.getElem?_eq_some_iff.mp hcb).1
    have hX : va_X b xs.length (fun j => xs.getD j 0) s s.heap := ⟨scr, hcb, hof, hkn, hsz, hval⟩
    have K : W p l e room_1 s m #[Value.ref b] below meth c s₁.heap [] 0 0 (lw_Z below #[Value.ref b] s) (entryFrame m ([Value.ref b] : List Value).toArray 7) := by
      rw [hh0]
      exact whole_start l hfl hbd ⟨B.exec, B.bytes, B.returns, hml, hown, hts, hX, hbl, B.notSynchronized, hgv⟩
    obtain ⟨t, a1, o, b1, b2, b3⟩ := K s₁ rfl X₀
    exact ⟨t, o, a1, b1, b2, b3⟩
theorem lw_pre_spec {args : Array Value} {s : State} (h : (Jvm.Cond.and given_1 narrow_1).before args s = true) (hr : rest_1_c.before args s = true) : ∃ (b : Addr) (xs : List Int32), lw_P b xs args s := by
  have hs := flat_of_before _ h
  have hq := flat_of_before _ hr
  have hc : (Cond.count 1).before args s = true := hs _ (by decide +kernel)
  have harr : (Cond.arrayOf (.arg 0) .int).before args s = true := hs _ (by decide +kernel)
  have hle : (Cond.le (.length (.arg 0)) (.int 2048)).before args s = true := hs _ (by decide +kernel)
  have hlen : (Cond.isInt (.length (.arg 0))).before args s = true := hq _ (by decide +kernel)
  have hall : (Cond.all (.arg 0) (.isInt (.elem (.arg 0) (.index 0)))).before args s = true := hq _ (by decide +kernel)
  obtain ⟨b, xs, hb, hx⟩ := State.ints_of_pre rfl harr hlen hall
  have hsm : xs.length < 2 ^ 31 := hx.choose_spec.2.2.2
  have hev : (Term.length (.arg 0)).eval args s none [] s = some (.int xs.length.toInt32) := hx.length_eval hb
  have hv := Cond.le_ints hev (show (Term.int 2048).eval args s none [] s = some (.int 2048) from rfl)
  have hd : xs.length.toInt32 ≤ 2048 := by
    simpa [Cond.before, Cond.holds, hv] using hle
  have hN : xs.length ≤ 2048 := (Int32.ofNat_le_ofNat hsm (by decide)).mp (show Int32.ofNat xs.length ≤ Int32.ofNat 2048 from hd)
  exact ⟨b, xs, Cond.one_arg hc (show args[0]? = some (.ref b) from hb), hx, hN, h⟩
theorem lw_comes (l : Launch) (hfl : l.flags = flags0) : Comes l x (Jvm.Cond.code x code maxLocals ret :: tables_1) room_1 (fun tb e args s => Calls_1 tb e args s ∧ rest_1 tb e args s ∧ Pre_1 tb e args s)
    (fun _ _ args s o t => lw_Q args s o t) := by
  intro p e ha hc hk s m args below hf hfit hheap happ hpre
  obtain ⟨b, xs, hP⟩ := lw_pre_spec hpre.2.2 hpre.2.1
  obtain ⟨k, o, h1, h2, h3, hQ⟩ := lw_walk l hfl b xs p e ha hc hk s m args below hf ((Spec.applies_iff_loose hf).mp happ).1 hP trivial
  exact ⟨k, o, h1, h2, h3, hQ⟩
theorem lw_frame {s t : State} {o : Outcome} {args : Array Value} (h : Framed s o t [] 601024 7293034) :
    Framed s o t (fieldLocs frame_1_writes args s ++ arrayLocs frame_1_arrays args s ++ staticLocs frame_1_statics s) 601024 7293034 := h
theorem lw_limb (L : Cond) (hL : ∀ (args : Array Value) (s t : State), L.after args s (.returned (some (.int 1))) t = true) :
    ArmFor flags0 classFile x code maxLocals ret World_1 tables_1 room_1 Calls_1 rest_1 Pre_1
      (fun tb e a s o t => postC L tb e a s o t ∧ Framed s o t (fieldLocs frame_1_writes a s ++ arrayLocs frame_1_arrays a s ++ staticLocs frame_1_statics s) 601024 7293034) := by
  intro l hfl _ _ p e ha hc hk s m args below hf hfit hheap happ hpre
  obtain ⟨k, o, h1, h2, h3, rfl, hF⟩ := lw_comes l hfl p e ha hc hk s m args below hf hfit hheap happ hpre
  exact ⟨k, _, h1, h2, h3, hL args s _, lw_frame hF⟩
theorem i_vc : Claimed_1_1 ∧ Claimed_1_2 := ⟨lw_limb limb_1_1 (fun args s t => by simp [limb_1_1, Cond.after, Cond.holds, Cond.value]), lw_limb limb_1_2 (fun args s t => Cond.after_iff.mpr (by
  first | (rw [show limb_1_2 = Cond.eq .result (.int 1) from rfl, Cond.eq_ints (x := 1) (y := 1) rfl rfl]; simp; done) | (simp [limb_1_2, Cond.value, Term.eval]; done)))⟩

