/-! route, bind -/
/-- the exchanges in the row of those that are passed, one after another -/
def rt_at (ex : Nat → Option (Int32 × Int32)) (bs : List bd_T) (key : List Nat) (hs : List (List Nat × List Nat)) (r : rs_T) : Nat → rs_T
  | 0 => r
  | k + 1 => ld_r ex bs key hs (rt_at ex bs key hs r k) ((rt_at ex bs key hs r k).2.1 k)
def rt_0 (r : rs_T) (x : Int32) : rs_T := rs_p (cl_b r.1 16, r.2.1, cl_b r.2.2 16) x
def rt_F (ex : Nat → Option (Int32 × Int32)) (bs : List bd_T) (key : List Nat) (hs : List (List Nat × List Nat)) (r r1 : rs_T) : Prop := ∃ k, r1 = rt_at ex bs key hs r k ∧ k ≤ 16 ∧ (k = 16 ∨ qu_n r1.1 ≤ k) ∧ ∀ i, i < k → i < qu_n (rt_at ex bs key hs r i).1
def bi_ok (ex : Nat → Option (Int32 × Int32)) (qs : Nat → Bool) (t : List Nat) (x y : Int32) (q : Bool) : Bool := match ex_at ex x with
  | none => false
  | some e => th_at ex qs y q && tx_for e.1 t
theorem bi_add {B : Nat} {D : va_G} {G N O : Nat → Nat} {M M3 M4 : hm_M} {bs : List bd_T} {d d1 q s : Nat} {xs : List Nat} {b : bd_T} (b1 : al_D B D G M 1 (N 4) d xs) (b2 : O (N 4) = 400) (b3 : B ≤ N 4) (b4 : d = G 0 ∨ O d = 401) (b5 : xs.length = bs.length) (b6 : ∀ (j x : Nat) (b : bd_T), xs[j]? = some x → bs[j]? = some b → bd_R D (cz_I O M) x b) (hI : im_R D G N O M) (hlen : bs.length < 120) (hq : M q = none) (e3 : M3 = hm_up M q (.inr (1, [.int b.1, .int b.2.1, .int (nI (bz b.2.2.1)), .ref s]))) (a1 : al_D B D G M4 1 (N 4) d1 (xs ++ [q])) (a2 : d1 = d ∨ M3 d1 = none) (a3 : d1 ≠ G 0) (a4 : ∀ z e, M3 z = some e → z ≠ (N 4) → (z = d → d = G 0 ∨ d1 ≠ d) → M4 z = some e) (hs : tx_S D (cz_I O M) s b.2.2.2) : ∃ O1, bi_R B D G N O1 M4 (bs ++ [b]) ∧ cz_F O M O1 M4 (cg 4) := by
  obtain ⟨nn, f, mo, g1, g2, g3⟩ := id b1
  have hk3 : ∀ z e, M z = some e → M3 z = some e := fun z e hz => by rw [e3]; exact hm_up_o (hm_neN hz hq) hz
  have hF : cz_F O M (cz_z O M (fun z => if z = q then 0 else 401)) M4 (cg 4) := fun z e hz => by
    refine ⟨cz_z_o hz, fun hn => a4 z e (hk3 z e hz) (fun e2 => hn (by rw [e2, b2]; rfl)) (fun e2 => ?_), ?_⟩
    · rcases b4 with h9 | h9
      · exact Or.inl h9
      · exact absurd (show cg 4 (O z) by rw [e2, h9]; rfl) hn
    · by_cases h1 : z = (N 4)
      · rw [h1]; exact a1.kn.1
      · by_cases h2 : d1 = d
        · by_cases h4 : z = d
          · rw [h4, ← h2]; exact a1.kn.2
          · exact ⟨e, a4 z e (hk3 z e hz) h1 (fun e2 => absurd e2 h4)⟩
        · exact ⟨e, a4 z e (hk3 z e hz) h1 (fun _ => Or.inr h2)⟩
  have hq4 : q ≠ N 4 := fun e2 => by rw [e2, g1] at hq; cases hq
  have hqd : q ≠ d := fun e2 => by rw [e2, g2] at hq; cases hq
  have hd1q : d1 ≠ q := fun e2 => by
    rcases a2 with h9 | h9
    · exact hqd (e2.symm.trans h9)
    · rw [e2, e3, hm_up_s] at h9; cases h9
  refine ⟨_, ⟨d1, xs ++ [q], a1, (cz_z_o g1).trans b2, b3, Or.inr ?_, by rw [List.length_append, List.length_append, b5]; rfl, fun j y h9 hj hh => ?_, by rw [List.length_append, List.length_singleton]; omega⟩, hF⟩
  · rcases a2 with h9 | h9
    · rw [h9]
      rcases b4 with h8 | h8
      · exact absurd (h9.trans h8) a3
      · exact (cz_z_o g2).trans h8
    · have : M d1 = none := by
        cases hm : M d1 with
        | none => rfl
        | some e => rw [hk3 _ _ hm] at h9; cases h9
      rw [cz_z_n this, if_neg hd1q]
  · by_cases e : j < bs.length
    · rw [List.getElem?_append_left (by omega)] at hj
      rw [List.getElem?_append_left e] at hh
      exact (b6 j y h9 hj hh).kept hF (cg_0 (by decide))
    · have ej : j = bs.length := by
        have := (List.getElem?_eq_some_iff.mp hh).1
        rw [List.length_append, List.length_singleton] at this
        omega
      subst ej
      rw [List.getElem?_append_right (by omega), b5, Nat.sub_self] at hj
      rw [List.getElem?_append_right (Nat.le_refl _), Nat.sub_self] at hh
      cases hj
      cases hh
      exact ⟨s, cz_I_m (by rw [cz_z_n hq, if_pos rfl]) (a4 _ _ (by rw [e3]; exact hm_up_s) hq4 (fun e2 => absurd e2 hqd)), hF.tx (cg_0 (by decide)) hs⟩

set_option maxHeartbeats 4000000 in
set_option maxRecDepth 100000 in
theorem kc_RD_route (l : Launch) (B : Nat) (D : va_G) (G : Nat → Nat) (M : hm_M) (N O : Nat → Nat) (hI : im_R D G N O M) (ex : Nat → Option (Int32 × Int32)) (hX : ex_R B D N O M ex) (bs : List bd_T) (hB : bi_R B D G N O M bs) (key : List Nat) (hs : List (List Nat × List Nat)) (hM : ms_R B D G N O M key hs) (r : rs_T) (hR : rs_R B D N O M r) (hkl : key.length ≤ 48) (hso8 : ∀ k e, ex k = some e → 0 ≤ e.1.toInt ∧ e.1.toInt ≤ 3) (x : Int32) (hx8 : (ex_at ex x).isSome = true) : Met l yy_RD_route ws_RD_route ({ frames := 9, cells := 0, slots := 0, locals := 215 }) (hm_Pc B D G M [.ref (N 0), .int x]) (hm_Ni B D (fun r9 M1 => ∃ r1, rt_F ex bs key hs (rt_0 r x) r1 ∧ r9 = nI (qu_n r1.2.2) ∧ rs_R B D N O M1 r1 ∧ cz_F O M O M1 (cg 6))) (0) (0) (hm_A B) := by
  refine Met.ofW (cc := cd_RD_route) (maxL := 3) (ret := ((some FieldType.int))) (by decide) rfl ?_
  intro p e s m args below meth c s₁ B0 hml hv
  obtain ⟨rfl, hE, hP⟩ := hv
  have hx := B0.exec
  have hb := B0.bytes
  have hr := B0.returns
  have hts : ∀ w ∈ tb_G, w.before _ s = true := fun w h => atoms_spec (ws := ws_RD_route) B0.pre w (List.mem_cons_of_mem _ h)
  have hown : s.vm.findClass "RouteDesk" = some m.cls := findClass_of_methodNamed B0.named
  have hlocks := B0.notSynchronized
  have hRf : (headSpec ws_RD_route { frames := 9, cells := 0, slots := 0, locals := 215 }).room.frames = 9 := rfl
  have hRl : (headSpec ws_RD_route { frames := 9, cells := 0, slots := 0, locals := 215 }).room.locals = 215 := rfl
  have hRc : (headSpec ws_RD_route { frames := 9, cells := 0, slots := 0, locals := 215 }).room.cells = 0 := rfl
  have hRs : (headSpec ws_RD_route { frames := 9, cells := 0, slots := 0, locals := 215 }).room.slots = 0 := rfl
  generalize (headSpec ws_RD_route { frames := 9, cells := 0, slots := 0, locals := 215 }).room = R at hRf hRl hRc hRs ⊢
  have hS : va_S (hm_A B) s.heap s.heap [] := va_S.rf
  have hl := lv_entry ([.ref (N 0), .int x]) (n := 3) (Nat.le_of_ble_eq_true rfl)
  rw [lg_entry_eq]
  generalize (lg_sl ([.ref (N 0), .int x]) ++ List.replicate (3 - (lg_sl ([.ref (N 0), .int x])).length) Slot.unset).toArray = ls at hl ⊢
  have hl : lv_has ls 3 [(0, .ref (N 0)), (1, .int x)] := hl
  have t16 : (nI 16).toInt = 16 := by decide
  have tm1 : (-1 : Int32).toInt = -1 := by decide
  have t0 : (nI 0).toInt = 0 := by decide
  have t2 : (nI 2).toInt = 2 := by decide
  have t3 : (nI 3).toInt = 3 := by decide
  obtain ⟨f, x1, x2, x3, x4⟩ := id hX
  obtain ⟨r1, r2, r3, r4, ⟨ro1, ro2, ro3, ro4⟩, ⟨rb1, rb2, rb3, rb4⟩⟩ := id hR
  have rp := qu_le r.1
  have rf := qu_le r.2.2
  refine lv_aload_n hx hb dd_RD_route_0 rfl (lv_at hl 0 rfl) ?_
  refine lv_iload_n hx hb dd_RD_route_1 rfl (lv_at hl 1 rfl) ?_
  refine hm_cq hS (hm_rV 1 (As := [.int x]) (rest := []) ⟨hx, hb, hml, hown, hts⟩ hE hS hP (kc_RD_exchangeAt l B D G M N O hI ex f ⟨x1, x2, x3, x4⟩ x) rfl hI.o tw_319 tw_316 tw_318 tw_0 tw_36 (by decide +kernel) rfl rfl ⟨by show 0 + 1 ≤ R.frames; omega, by show 8 + (2 + 11) + 0 ≤ R.locals; omega⟩ rfl hl.1 rfl (Nat.le_of_ble_eq_true rfl) dd_RD_route_2 ⟨by omega, by omega⟩) (fun r1 M2 H locs hw3 hP hS => ?_)
  refine W.widen (k := 0) (n := 0) (by omega) (by omega) ?_
  obtain ⟨eM2, qM2⟩ := hw3
  rw [eM2] at hP
  rcases qM2 with ⟨he, rfl⟩ | ⟨a, s9, o9, he, rfl, he2, he3, he4, he5, he6⟩
  · rw [he] at hx8; cases hx8
  · refine lv_ifnonnull (tgt := 18) hx hb dd_RD_route_5 (by decide) ?_
    refine lv_aload_n hx hb dd_RD_route_18 rfl (lv_at hl 0 rfl) ?_
    refine hm_get (ci := 0) (C := rn_RD) (T := ft_RD) (N := 6) hx hb hts fi_RD hown hE.K hP hI.o rfl 5 (by decide) (hts _ tw_189) (fun _ h9 => h9) rfl dd_RD_route_19 ?_
    refine lv_iload_n hx hb dd_RD_route_22 rfl (lv_at hl 1 rfl) ?_
    refine hm_cv hS (hm_rV 1 (As := [.int x]) (rest := []) ⟨hx, hb, hml, hown, hts⟩ hE hS hP (kc_RT_startAt l B D G M N O r.1 r.2.1 r.2.2 hR x) rfl r1 tw_900 tw_897 tw_898 tw_899 tw_45 (by decide +kernel) rfl rfl ⟨by show 1 + 1 ≤ R.frames; omega, by show 8 + (3 + 11) + 21 ≤ R.locals; omega⟩ rfl hl.1 rfl (Nat.le_of_ble_eq_true rfl) dd_RD_route_23 ⟨by omega, by omega⟩) (fun M5 H locs hw6 hP hS => ?_)
    refine W.widen (k := 0) (n := 0) (by omega) (by omega) ?_
    obtain ⟨ks1, ks2⟩ := hw6
    have ks1 : rs_R B D N O M5 (rt_0 r x) := ks1
    have hFs := ks2
    have hIs := hI.kept hFs (cg_0 (by decide))
    refine lv_iconst (v := nI 0) hx hb dd_RD_route_26 (by decide +kernel) ?_
    refine lv_istore_n (lv' := [(2, .int (nI 0)), (0, .ref (N 0)), (1, .int x)]) hx hb dd_RD_route_27 rfl hl (by decide) rfl (fun ls hl => ?_)
    have lp28 : ∀ (n9 : Nat) (k : Nat) (Mu : hm_M) (ra : rs_T), (k ≤ 16) → (cz_F O M O Mu (cg 6)) → (rs_R B D N O Mu ra) → (ra = rt_at ex bs key hs (rt_0 r x) k) → (∀ i, i < k → i < qu_n (rt_at ex bs key hs (rt_0 r x) i).1) → 16 - k < n9 → ∀ (H : Heap) (locs : List Loc) (ls : Array Slot), hm_P D cl_W Mu H → va_S (hm_A B) s.heap H locs → lv_has ls 3 [(0, .ref (N 0)), (1, .int x), (2, .int (nI k))] → W p l e R s m ([.ref (N 0), .int x] : List Value).toArray below meth c H locs (0) (0) (MQ below (hm_Ni B D (fun r9 M1 => ∃ r1, rt_F ex bs key hs (rt_0 r x) r1 ∧ r9 = nI (qu_n r1.2.2) ∧ rs_R B D N O M1 r1 ∧ cz_F O M O M1 (cg 6))) ([.ref (N 0), .int x] : List Value).toArray s (0) (0) (hm_A B)) (F0 m 28 ls []) := by
      intro n9
      induction n9 with
      | zero => intro k Mu ra hk hF9 hr9 hra hbe hm; exact absurd hm (Nat.not_lt_zero _)
      | succ n9 ih28 =>
        intro k Mu ra hk hF9 hr9 hra hbe hm H locs ls hP hS hl
        have hIo := hI
        have hI := hI.kept hF9 (cg_0 (by decide))
        have hX := hX.kept hF9 (fun c h9 => cg_n h9 (by decide))
        have hM := hM.kept hF9 hIo (fun c h9 => cg_n h9 (by decide)) (cg_0 (by decide))
        have hB := hB.kept hF9 hIo (fun c h9 => cg_n h9 (by decide)) (cg_0 (by decide))
        have hR := hr9
        obtain ⟨r1, r2, r3, r4, ⟨ro1, ro2, ro3, ro4⟩, ⟨rb1, rb2, rb3, rb4⟩⟩ := id hR
        have rp := qu_le ra.1
        have rf := qu_le ra.2.2
        refine lv_iload_n hx hb dd_RD_route_28 rfl (lv_at hl 2 rfl) ?_
        refine lv_bipush (v := nI 16) hx hb dd_RD_route_29 (by decide +kernel) ?_
        refine hn_icmp_ge (tgt := 64) hx hb (by omega) (by omega) dd_RD_route_31 (by decide) (fun c7 => ?_) (fun c7 => ?_)
        · refine lv_aload_n hx hb dd_RD_route_64 rfl (lv_at hl 0 rfl) ?_
          refine hm_get (ci := 0) (C := rn_RD) (T := ft_RD) (N := 6) hx hb hts fi_RD hown hE.K hP hI.o rfl 5 (by decide) (hts _ tw_189) (fun _ h9 => h9) rfl dd_RD_route_65 ?_
          refine hm_getN (ci := 5) (C := rn_RT) (T := ft_RT) (N := 5) hx hb hts fi_RT hown hE.K hP r1 rfl 4 (by decide) (va_Nw.use rfl (hE.nest 8 rfl)) (fun _ h9 => h9) rfl dd_RD_route_68 ?_
          exact hm_Ei (v := nI (qu_n ra.2.2)) hx hb hr rfl hS hP (⟨ra, ⟨k, hra, hk, by first | exact Or.inl (by omega) | exact Or.inr (by omega), hbe⟩, rfl, hr9, hF9⟩) hlocks (by omega) (by omega) dd_RD_route_71
        · refine lv_iload_n hx hb dd_RD_route_34 rfl (lv_at hl 2 rfl) ?_
          refine lv_aload_n hx hb dd_RD_route_35 rfl (lv_at hl 0 rfl) ?_
          refine hm_get (ci := 0) (C := rn_RD) (T := ft_RD) (N := 6) hx hb hts fi_RD hown hE.K hP hI.o rfl 5 (by decide) (hts _ tw_189) (fun _ h9 => h9) rfl dd_RD_route_36 ?_
          refine hm_getN (ci := 5) (C := rn_RT) (T := ft_RT) (N := 5) hx hb hts fi_RT hown hE.K hP r1 rfl 2 (by decide) (va_Nw.use rfl (hE.nest 7 rfl)) (fun _ h9 => h9) rfl dd_RD_route_39 ?_
          refine hn_icmp_ge (tgt := 64) hx hb (by omega) (by omega) dd_RD_route_42 (by decide) (fun c8 => ?_) (fun c8 => ?_)
          · refine lv_aload_n hx hb dd_RD_route_64 rfl (lv_at hl 0 rfl) ?_
            refine hm_get (ci := 0) (C := rn_RD) (T := ft_RD) (N := 6) hx hb hts fi_RD hown hE.K hP hI.o rfl 5 (by decide) (hts _ tw_189) (fun _ h9 => h9) rfl dd_RD_route_65 ?_
            refine hm_getN (ci := 5) (C := rn_RT) (T := ft_RT) (N := 5) hx hb hts fi_RT hown hE.K hP r1 rfl 4 (by decide) (va_Nw.use rfl (hE.nest 8 rfl)) (fun _ h9 => h9) rfl dd_RD_route_68 ?_
            exact hm_Ei (v := nI (qu_n ra.2.2)) hx hb hr rfl hS hP (⟨ra, ⟨k, hra, hk, by first | exact Or.inl (by omega) | exact Or.inr (by omega), hbe⟩, rfl, hr9, hF9⟩) hlocks (by omega) (by omega) dd_RD_route_71
          · refine lv_aload_n hx hb dd_RD_route_45 rfl (lv_at hl 0 rfl) ?_
            refine lv_aload_n hx hb dd_RD_route_46 rfl (lv_at hl 0 rfl) ?_
            refine hm_get (ci := 0) (C := rn_RD) (T := ft_RD) (N := 6) hx hb hts fi_RD hown hE.K hP hI.o rfl 5 (by decide) (hts _ tw_189) (fun _ h9 => h9) rfl dd_RD_route_47 ?_
            refine hm_getN (ci := 5) (C := rn_RT) (T := ft_RT) (N := 5) hx hb hts fi_RT hown hE.K hP r1 rfl 1 (by decide) (va_Nw.use rfl (hE.nest 6 rfl)) (fun _ h9 => h9) rfl dd_RD_route_50 ?_
            refine lv_iload_n hx hb dd_RD_route_53 rfl (lv_at hl 2 rfl) ?_
            refine hm_iald (j := k) hx hb hE.K hP 2 r3 rfl (vp_in_nI (by omega) (by omega)) (nI_clamp (by omega)) dd_RD_route_54 ?_
            refine hm_cv hS (hm_rV 1 (As := [.int (ra.2.1 k)]) (rest := []) ⟨hx, hb, hml, hown, hts⟩ hE hS hP (kc_RD_leadOn l B D G Mu N O hI ex hX bs hB key hs hM ra hR hkl hso8 (ra.2.1 k)) rfl hI.o tw_908 tw_905 tw_907 tw_14 tw_36 (by decide +kernel) rfl rfl ⟨by show 8 + 1 ≤ R.frames; omega, by show 8 + (6 + 11) + 190 ≤ R.locals; omega⟩ rfl hl.1 rfl (Nat.le_of_ble_eq_true rfl) dd_RD_route_55 ⟨by omega, by omega⟩) (fun M10 H locs hw11 hP hS => ?_)
            refine W.widen (k := 0) (n := 0) (by omega) (by omega) ?_
            obtain ⟨kl1, kl2⟩ := hw11
            refine lv_iinc (v := nI (k + 1)) (lv' := [(2, .int (nI (k + 1))), (0, .ref (N 0)), (1, .int x)]) hx hb dd_RD_route_58 hl (k := 2) rfl (nI_1 k) (by decide) rfl (fun ls hl => ?_)
            refine lv_goto (tgt := 28) hx hb dd_RD_route_61 (by decide) ?_
            exact ih28 (k + 1) M10 (ld_r ex bs key hs ra (ra.2.1 k)) (by omega) (hF9.trans kl2) (kl1) (by rw [hra]; rfl) (fun i hi => by
                by_cases h9 : i = k
                · subst h9; rw [← hra]; omega
                · exact hbe i (by omega)) (by omega) _ _ _ hP hS (lv_sub hl [1, 2, 0] rfl)
    exact lp28 _ 0 M5 (rt_0 r x) (Nat.zero_le _) (ks2) (ks1) (rfl) (fun i hi => absurd hi (Nat.not_lt_zero _)) (Nat.lt_succ_self _) _ _ _ hP hS (lv_sub hl [1, 2, 0] rfl)
set_option maxHeartbeats 4000000 in
set_option maxRecDepth 100000 in
theorem kt_RD_route (l : Launch) (B : Nat) (D : va_G) (G : Nat → Nat) (M : hm_M) (hfl : l.flags = flags0) (N O : Nat → Nat) (hI : im_R D G N O M) (ex : Nat → Option (Int32 × Int32)) (hX : ex_R B D N O M ex) (x : Int32) (hx8 : ex_at ex x = none) : MetT l yy_RD_route ws_RD_route ({ frames := 6, cells := 1, slots := 6, locals := 90 }) (hm_Pc B D G M [.ref (N 0), .int x]) (hm_X B D "java/lang/IllegalArgumentException" (fun M1 => M1 = M)) (1) (6) (hm_A B) := by
  refine MetT.ofW (cc := cd_RD_route) (maxL := 3) (ret := ((some FieldType.int))) (by decide) rfl ?_
  intro p e s m args below meth c s₁ B0 hml hv htab
  obtain ⟨rfl, hE, hP⟩ := hv
  have hx := B0.exec
  have hb := B0.bytes
  have hr := B0.returns
  have hts : ∀ w ∈ tb_G, w.before _ s = true := fun w h => atoms_spec (ws := ws_RD_route) B0.pre w (List.mem_cons_of_mem _ h)
  have hown : s.vm.findClass "RouteDesk" = some m.cls := findClass_of_methodNamed B0.named
  have hlocks := B0.notSynchronized
  have hRf : (headSpec ws_RD_route { frames := 6, cells := 1, slots := 6, locals := 90 }).room.frames = 6 := rfl
  have hRl : (headSpec ws_RD_route { frames := 6, cells := 1, slots := 6, locals := 90 }).room.locals = 90 := rfl
  have hRc : (headSpec ws_RD_route { frames := 6, cells := 1, slots := 6, locals := 90 }).room.cells = 1 := rfl
  have hRs : (headSpec ws_RD_route { frames := 6, cells := 1, slots := 6, locals := 90 }).room.slots = 6 := rfl
  generalize (headSpec ws_RD_route { frames := 6, cells := 1, slots := 6, locals := 90 }).room = R at hRf hRl hRc hRs ⊢
  have hS : va_S (hm_A B) s.heap s.heap [] := va_S.rf
  have hl := lv_entry ([.ref (N 0), .int x]) (n := 3) (Nat.le_of_ble_eq_true rfl)
  rw [lg_entry_eq]
  generalize (lg_sl ([.ref (N 0), .int x]) ++ List.replicate (3 - (lg_sl ([.ref (N 0), .int x])).length) Slot.unset).toArray = ls at hl ⊢
  have hl : lv_has ls 3 [(0, .ref (N 0)), (1, .int x)] := hl
  have t16 : (nI 16).toInt = 16 := by decide
  have tm1 : (-1 : Int32).toInt = -1 := by decide
  have t0 : (nI 0).toInt = 0 := by decide
  have t2 : (nI 2).toInt = 2 := by decide
  have t3 : (nI 3).toInt = 3 := by decide
  obtain ⟨f, x1, x2, x3, x4⟩ := id hX
  refine lv_aload_n hx hb dd_RD_route_0 rfl (lv_at hl 0 rfl) ?_
  refine lv_iload_n hx hb dd_RD_route_1 rfl (lv_at hl 1 rfl) ?_
  refine hm_cq hS (hm_rV 1 (As := [.int x]) (rest := []) ⟨hx, hb, hml, hown, hts⟩ hE hS hP (kc_RD_exchangeAt l B D G M N O hI ex f ⟨x1, x2, x3, x4⟩ x) rfl hI.o tw_319 tw_316 tw_318 tw_0 tw_36 (by decide +kernel) rfl rfl ⟨by show 0 + 1 ≤ R.frames; omega, by show 8 + (2 + 11) + 0 ≤ R.locals; omega⟩ rfl hl.1 rfl (Nat.le_of_ble_eq_true rfl) dd_RD_route_2 ⟨by omega, by omega⟩) (fun r1 M2 H locs hw3 hP hS => ?_)
  refine W.widen (k := 0) (n := 0) (by omega) (by omega) ?_
  obtain ⟨eM2, qM2⟩ := hw3
  rw [eM2] at hP
  rcases qM2 with ⟨he, rfl⟩ | ⟨a, s9, o9, he, rfl, he2, he3, he4, he5, he6⟩
  · skip
    refine lv_ifnonnullN hx hb dd_RD_route_5 ?_
    exact xt_new (tx := "no such exchange") (q := G 11) hfl ⟨hx, hb, hml, hown, hts⟩ hE hS hP (rfl) htab hlocks hl.1 (by decide +kernel) (by decide +kernel) (by decide +kernel) (by decide +kernel) (by decide +kernel) (by decide +kernel) (xo_IAE hts hE) tw_782 tw_396 tw_56 (hE.str (q := ("RouteDesk", 160, "no such exchange", 11)) 10 rfl) (by show 2 + 3 < R.frames; omega) (by show 0 + 1 + (13 * (2 + 1) + 42) ≤ R.locals; omega) (by omega) (by omega) (by omega) (by omega) dd_RD_route_8 dd_RD_route_11 dd_RD_route_12 dd_RD_route_14 dd_RD_route_17
  · rw [hx8] at he; cases he
set_option maxHeartbeats 4000000 in
set_option maxRecDepth 100000 in
theorem kt_RD_bind1 (l : Launch) (B : Nat) (D : va_G) (G : Nat → Nat) (M : hm_M) (hfl : l.flags = flags0) (N O : Nat → Nat) (hI : im_R D G N O M) (t : List Nat) (hT : tp_R B D N O M t) (ex : Nat → Option (Int32 × Int32)) (hX : ex_R B D N O M ex) (qs : Nat → Bool) (hQ : qu_R B D N O M qs) (bs : List bd_T) (hB : bi_R B D G N O M bs) (hso8 : ∀ k e, ex k = some e → 0 ≤ e.1.toInt ∧ e.1.toInt ≤ 3) (x y : Int32) (q : Bool) (hgood : bi_ok ex qs t x y q = false) : MetT l yy_RD_bind ws_RD_bind ({ frames := 8, cells := 3, slots := 110, locals := 176 }) (hm_Pc B D G M [.ref (N 0), .int x, .int y, .int (nI (bz q))]) (hm_X B D "java/lang/IllegalArgumentException" (fun M1 => ∃ O1, tp_R B D N O1 M1 [] ∧ cz_F O M O1 M1 (cg 1))) (3) (110) (hm_A B) := by
  refine MetT.ofW (cc := cd_RD_bind) (maxL := 6) (ret := ((some FieldType.boolean))) (by decide) rfl ?_
  intro p e s m args below meth c s₁ B0 hml hv htab
  obtain ⟨rfl, hE, hP⟩ := hv
  have hx := B0.exec
  have hb := B0.bytes
  have hr := B0.returns
  have hts : ∀ w ∈ tb_G, w.before _ s = true := fun w h => atoms_spec (ws := ws_RD_bind) B0.pre w (List.mem_cons_of_mem _ h)
  have hown : s.vm.findClass "RouteDesk" = some m.cls := findClass_of_methodNamed B0.named
  have hlocks := B0.notSynchronized
  have hRf : (headSpec ws_RD_bind { frames := 8, cells := 3, slots := 110, locals := 176 }).room.frames = 8 := rfl
  have hRl : (headSpec ws_RD_bind { frames := 8, cells := 3, slots := 110, locals := 176 }).room.locals = 176 := rfl
  have hRc : (headSpec ws_RD_bind { frames := 8, cells := 3, slots := 110, locals := 176 }).room.cells = 3 := rfl
  have hRs : (headSpec ws_RD_bind { frames := 8, cells := 3, slots := 110, locals := 176 }).room.slots = 110 := rfl
  generalize (headSpec ws_RD_bind { frames := 8, cells := 3, slots := 110, locals := 176 }).room = R at hRf hRl hRc hRs ⊢
  have hS : va_S (hm_A B) s.heap s.heap [] := va_S.rf
  have hl := lv_entry ([.ref (N 0), .int x, .int y, .int (nI (bz q))]) (n := 6) (Nat.le_of_ble_eq_true rfl)
  rw [lg_entry_eq]
  generalize (lg_sl ([.ref (N 0), .int x, .int y, .int (nI (bz q))]) ++ List.replicate (6 - (lg_sl ([.ref (N 0), .int x, .int y, .int (nI (bz q))])).length) Slot.unset).toArray = ls at hl ⊢
  have hl : lv_has ls 6 [(0, .ref (N 0)), (1, .int x), (2, .int y), (3, .int (nI (bz q)))] := hl
  have t16 : (nI 16).toInt = 16 := by decide
  have tm1 : (-1 : Int32).toInt = -1 := by decide
  have t0 : (nI 0).toInt = 0 := by decide
  have t2 : (nI 2).toInt = 2 := by decide
  have t3 : (nI 3).toInt = 3 := by decide
  refine lv_aload_n hx hb dd_RD_bind_0 rfl (lv_at hl 0 rfl) ?_
  refine hm_cr hS (hm_rV 0 (As := []) (rest := []) ⟨hx, hb, hml, hown, hts⟩ hE hS hP (kc_RD_takeTape l B D G M N O hI t hT) rfl hI.o tw_365 tw_362 tw_364 tw_3 tw_36 (by decide +kernel) rfl rfl ⟨by show 6 + 1 ≤ R.frames; omega, by show 8 + (2 + 11) + 151 ≤ R.locals; omega⟩ rfl hl.1 rfl (Nat.le_of_ble_eq_true rfl) dd_RD_bind_1 ⟨by omega, by omega⟩) (fun r1 M2 H locs hw3 hP hS => ?_)
  refine W.widen (k := 2) (n := 104) (by omega) (by omega) ?_
  have hIo := hI
  obtain ⟨O, hT, htx, hFa⟩ := hw3
  have hI := hI.kept hFa (cg_0 (by decide))
  have hX := hX.kept hFa (fun c h9 => cg_n h9 (by decide))
  have hQ := hQ.kept hFa (fun c h9 => cg_n h9 (by decide))
  have hB := hB.kept hFa hIo (fun c h9 => cg_n h9 (by decide)) (cg_0 (by decide))
  obtain ⟨d, xs, b1, b2, b3, b4, b5, b6, b7⟩ := id hB
  obtain ⟨n4, f4, mo4, bb1, bb2, bb3⟩ := id b1
  obtain ⟨f, x1, x2, x3, x4⟩ := id hX
  obtain ⟨vr1, hr1⟩ := tx_o (cz_tx htx)
  refine lv_astore (lv' := [(4, .ref r1), (0, .ref (N 0)), (1, .int x), (2, .int y), (3, .int (nI (bz q)))]) hx hb dd_RD_bind_4 hl (by decide) rfl (fun ls hl => ?_)
  refine lv_aload_n hx hb dd_RD_bind_6 rfl (lv_at hl 1 rfl) ?_
  refine lv_iload_n hx hb dd_RD_bind_7 rfl (lv_at hl 2 rfl) ?_
  refine hm_cq hS (hm_rV 1 (As := [.int x]) (rest := []) ⟨hx, hb, hml, hown, hts⟩ hE hS hP (kc_RD_exchangeAt l B D G M2 N O hI ex f ⟨x1, x2, x3, x4⟩ x) rfl hI.o tw_319 tw_316 tw_318 tw_0 tw_36 (by decide +kernel) rfl rfl ⟨by show 0 + 1 ≤ R.frames; omega, by show 8 + (2 + 11) + 0 ≤ R.locals; omega⟩ rfl hl.1 rfl (Nat.le_of_ble_eq_true rfl) dd_RD_bind_8 ⟨by omega, by omega⟩) (fun r4 M5 H locs hw6 hP hS => ?_)
  refine W.widen (k := 2) (n := 104) (by omega) (by omega) ?_
  obtain ⟨eM5, qM5⟩ := hw6
  rw [eM5] at hP
  rcases qM5 with ⟨he, rfl⟩ | ⟨a, s9, o9, he, rfl, he2, he3, he4, he5, he6⟩
  · refine lv_astoreN (lv' := [(5, .null), (4, .ref r1), (0, .ref (N 0)), (1, .int x), (2, .int y), (3, .int (nI (bz q)))]) hx hb dd_RD_bind_11 hl (by decide) rfl (fun ls hl => ?_)
    refine lv_aloadN hx hb dd_RD_bind_13 (lv_at hl 0 rfl) ?_
    refine lv_ifnullN (tgt := 27) hx hb dd_RD_bind_15 (by decide) ?_
    exact xt_new (tx := "no such exchange or queue") (q := G 8) hfl ⟨hx, hb, hml, hown, hts⟩ hE hS hP (⟨O, hT, hFa⟩) htab hlocks hl.1 (by decide +kernel) (by decide +kernel) (by decide +kernel) (by decide +kernel) (by decide +kernel) (by decide +kernel) (xo_IAE hts hE) tw_782 tw_396 tw_56 (hE.str (q := ("RouteDesk", 110, "no such exchange or queue", 8)) 7 rfl) (by show 2 + 3 < R.frames; omega) (by show 0 + 1 + (13 * (2 + 1) + 42) ≤ R.locals; omega) (by omega) (by omega) (by omega) (by omega) dd_RD_bind_27 dd_RD_bind_30 dd_RD_bind_31 dd_RD_bind_33 dd_RD_bind_36
  · refine lv_astore (lv' := [(5, .ref a), (4, .ref r1), (0, .ref (N 0)), (1, .int x), (2, .int y), (3, .int (nI (bz q)))]) hx hb dd_RD_bind_11 hl (by decide) rfl (fun ls hl => ?_)
    refine lv_aload hx hb dd_RD_bind_13 (lv_at hl 0 rfl) ?_
    refine lv_ifnull hx hb dd_RD_bind_15 ?_
    refine lv_aload_n hx hb dd_RD_bind_18 rfl (lv_at hl 2 rfl) ?_
    refine lv_iload_n hx hb dd_RD_bind_19 rfl (lv_at hl 4 rfl) ?_
    refine lv_iload_n hx hb dd_RD_bind_20 rfl (lv_at hl 5 rfl) ?_
    refine hm_ci hS (hm_rV 2 (As := [.int y, .int (nI (bz q))]) (rest := []) ⟨hx, hb, hml, hown, hts⟩ hE hS hP (kc_RD_isThere l B D G M2 N O hI ex hX qs hQ y q) rfl hI.o tw_327 tw_324 tw_326 tw_1 tw_36 (by decide +kernel) rfl rfl ⟨by show 1 + 1 ≤ R.frames; omega, by show 8 + (3 + 11) + 21 ≤ R.locals; omega⟩ rfl hl.1 rfl (Nat.le_of_ble_eq_true rfl) dd_RD_bind_21 ⟨by omega, by omega⟩) (fun r7 M8 H locs hw9 hP hS => ?_)
    refine W.widen (k := 2) (n := 104) (by omega) (by omega) ?_
    obtain ⟨rfl, eM8⟩ := hw9
    rw [eM8] at hP
    refine hn_if_ne (tgt := 37) hx hb (bz_b _) dd_RD_bind_24 (by decide) (fun c10 => ?_) (fun c10 => ?_)
    · have hth := bz_t c10
      refine lv_aload hx hb dd_RD_bind_37 (lv_at hl 0 rfl) ?_
      refine hm_getN (ci := 2) (C := rn_EX) (T := ft_EX) (N := 2) hx hb hts fi_EX hown hE.K hP he2 rfl 0 (by decide) (va_Nw.use rfl (hE.nest 15 rfl)) (fun _ h9 => h9) rfl dd_RD_bind_39 ?_
      refine lv_aload hx hb dd_RD_bind_42 (lv_at hl 1 rfl) ?_
      refine hm_ci hS (hm_rS 2 (As := [.int s9, .ref r1]) (rest := []) ⟨hx, hb, hml, hown, hts⟩ hE hS hP (kc_RD_isTextFor l B D G M2 O N hI s9 (hso8 x.toInt.toNat (s9, o9) (by rw [← ex_in (ex := ex) he5]; exact he)) r1 t (cz_tx htx)) tw_833 tw_831 tw_832 tw_36 (by decide +kernel) rfl rfl ⟨by show 7 + 1 ≤ R.frames; omega, by show 8 + (2 + 11) + 155 ≤ R.locals; omega⟩ rfl hl.1 rfl (Nat.le_of_ble_eq_true rfl) dd_RD_bind_44 ⟨by omega, by omega⟩) (fun r11 M12 H locs hw13 hP hS => ?_)
      refine W.widen (k := 2) (n := 104) (by omega) (by omega) ?_
      obtain ⟨rfl, eM12⟩ := hw13
      rw [eM12] at hP
      refine hn_if_ne (tgt := 60) hx hb (bz_b _) dd_RD_bind_47 (by decide) (fun c14 => ?_) (fun c14 => ?_)
      · have htf := bz_t c14
        have hg9 : bi_ok ex qs t x y q = true := by rw [bi_ok, he]; show (th_at ex qs y q && tx_for s9 t) = true; rw [hth, htf]; rfl
        rw [hgood] at hg9; cases hg9
      · have htf := bz_f c14
        exact xt_new (tx := "no text for that sort") (q := G 9) hfl ⟨hx, hb, hml, hown, hts⟩ hE hS hP (⟨O, hT, hFa⟩) htab hlocks hl.1 (by decide +kernel) (by decide +kernel) (by decide +kernel) (by decide +kernel) (by decide +kernel) (by decide +kernel) (xo_IAE hts hE) tw_782 tw_396 tw_56 (hE.str (q := ("RouteDesk", 119, "no text for that sort", 9)) 8 rfl) (by show 2 + 3 < R.frames; omega) (by show 0 + 1 + (13 * (2 + 1) + 42) ≤ R.locals; omega) (by omega) (by omega) (by omega) (by omega) dd_RD_bind_50 dd_RD_bind_53 dd_RD_bind_54 dd_RD_bind_56 dd_RD_bind_59
    · have hth := bz_f c10
      exact xt_new (tx := "no such exchange or queue") (q := G 8) hfl ⟨hx, hb, hml, hown, hts⟩ hE hS hP (⟨O, hT, hFa⟩) htab hlocks hl.1 (by decide +kernel) (by decide +kernel) (by decide +kernel) (by decide +kernel) (by decide +kernel) (by decide +kernel) (xo_IAE hts hE) tw_782 tw_396 tw_56 (hE.str (q := ("RouteDesk", 110, "no such exchange or queue", 8)) 7 rfl) (by show 2 + 3 < R.frames; omega) (by show 0 + 1 + (13 * (2 + 1) + 42) ≤ R.locals; omega) (by omega) (by omega) (by omega) (by omega) dd_RD_bind_27 dd_RD_bind_30 dd_RD_bind_31 dd_RD_bind_33 dd_RD_bind_36
set_option maxHeartbeats 4000000 in
set_option maxRecDepth 100000 in
theorem kc_RD_bind0 (l : Launch) (B : Nat) (D : va_G) (G : Nat → Nat) (M : hm_M) (N O : Nat → Nat) (hI : im_R D G N O M) (t : List Nat) (hT : tp_R B D N O M t) (ex : Nat → Option (Int32 × Int32)) (hX : ex_R B D N O M ex) (qs : Nat → Bool) (hQ : qu_R B D N O M qs) (bs : List bd_T) (hB : bi_R B D G N O M bs) (hso8 : ∀ k e, ex k = some e → 0 ≤ e.1.toInt ∧ e.1.toInt ≤ 3) (x y : Int32) (q : Bool) (hgood : bi_ok ex qs t x y q = true) (hany : bs.any (bd_is x y q t) = true) : Met l yy_RD_bind ws_RD_bind ({ frames := 8, cells := 2, slots := 104, locals := 176 }) (hm_Pc B D G M [.ref (N 0), .int x, .int y, .int (nI (bz q))]) (hm_Ni B D (fun r M1 => r = nI 0 ∧ ∃ O1, tp_R B D N O1 M1 [] ∧ cz_F O M O1 M1 (cg 1))) (2) (104) (hm_A B) := by
  refine Met.ofW (cc := cd_RD_bind) (maxL := 6) (ret := ((some FieldType.boolean))) (by decide) rfl ?_
  intro p e s m args below meth c s₁ B0 hml hv
  obtain ⟨rfl, hE, hP⟩ := hv
  have hx := B0.exec
  have hb := B0.bytes
  have hr := B0.returns
  have hts : ∀ w ∈ tb_G, w.before _ s = true := fun w h => atoms_spec (ws := ws_RD_bind) B0.pre w (List.mem_cons_of_mem _ h)
  have hown : s.vm.findClass "RouteDesk" = some m.cls := findClass_of_methodNamed B0.named
  have hlocks := B0.notSynchronized
  have hRf : (headSpec ws_RD_bind { frames := 8, cells := 2, slots := 104, locals := 176 }).room.frames = 8 := rfl
  have hRl : (headSpec ws_RD_bind { frames := 8, cells := 2, slots := 104, locals := 176 }).room.locals = 176 := rfl
  have hRc : (headSpec ws_RD_bind { frames := 8, cells := 2, slots := 104, locals := 176 }).room.cells = 2 := rfl
  have hRs : (headSpec ws_RD_bind { frames := 8, cells := 2, slots := 104, locals := 176 }).room.slots = 104 := rfl
  generalize (headSpec ws_RD_bind { frames := 8, cells := 2, slots := 104, locals := 176 }).room = R at hRf hRl hRc hRs ⊢
  have hS : va_S (hm_A B) s.heap s.heap [] := va_S.rf
  have hl := lv_entry ([.ref (N 0), .int x, .int y, .int (nI (bz q))]) (n := 6) (Nat.le_of_ble_eq_true rfl)
  rw [lg_entry_eq]
  generalize (lg_sl ([.ref (N 0), .int x, .int y, .int (nI (bz q))]) ++ List.replicate (6 - (lg_sl ([.ref (N 0), .int x, .int y, .int (nI (bz q))])).length) Slot.unset).toArray = ls at hl ⊢
  have hl : lv_has ls 6 [(0, .ref (N 0)), (1, .int x), (2, .int y), (3, .int (nI (bz q)))] := hl
  have t16 : (nI 16).toInt = 16 := by decide
  have tm1 : (-1 : Int32).toInt = -1 := by decide
  have t0 : (nI 0).toInt = 0 := by decide
  have t2 : (nI 2).toInt = 2 := by decide
  have t3 : (nI 3).toInt = 3 := by decide
  refine lv_aload_n hx hb dd_RD_bind_0 rfl (lv_at hl 0 rfl) ?_
  refine hm_cr hS (hm_rV 0 (As := []) (rest := []) ⟨hx, hb, hml, hown, hts⟩ hE hS hP (kc_RD_takeTape l B D G M N O hI t hT) rfl hI.o tw_365 tw_362 tw_364 tw_3 tw_36 (by decide +kernel) rfl rfl ⟨by show 6 + 1 ≤ R.frames; omega, by show 8 + (2 + 11) + 151 ≤ R.locals; omega⟩ rfl hl.1 rfl (Nat.le_of_ble_eq_true rfl) dd_RD_bind_1 ⟨by omega, by omega⟩) (fun r1 M2 H locs hw3 hP hS => ?_)
  refine W.widen (k := 2) (n := 104) (by omega) (by omega) ?_
  have hIo := hI
  obtain ⟨O, hT, htx, hFa⟩ := hw3
  have hI := hI.kept hFa (cg_0 (by decide))
  have hX := hX.kept hFa (fun c h9 => cg_n h9 (by decide))
  have hQ := hQ.kept hFa (fun c h9 => cg_n h9 (by decide))
  have hB := hB.kept hFa hIo (fun c h9 => cg_n h9 (by decide)) (cg_0 (by decide))
  obtain ⟨d, xs, b1, b2, b3, b4, b5, b6, b7⟩ := id hB
  obtain ⟨n4, f4, mo4, bb1, bb2, bb3⟩ := id b1
  obtain ⟨f, x1, x2, x3, x4⟩ := id hX
  obtain ⟨vr1, hr1⟩ := tx_o (cz_tx htx)
  refine lv_astore (lv' := [(4, .ref r1), (0, .ref (N 0)), (1, .int x), (2, .int y), (3, .int (nI (bz q)))]) hx hb dd_RD_bind_4 hl (by decide) rfl (fun ls hl => ?_)
  refine lv_aload_n hx hb dd_RD_bind_6 rfl (lv_at hl 1 rfl) ?_
  refine lv_iload_n hx hb dd_RD_bind_7 rfl (lv_at hl 2 rfl) ?_
  refine hm_cq hS (hm_rV 1 (As := [.int x]) (rest := []) ⟨hx, hb, hml, hown, hts⟩ hE hS hP (kc_RD_exchangeAt l B D G M2 N O hI ex f ⟨x1, x2, x3, x4⟩ x) rfl hI.o tw_319 tw_316 tw_318 tw_0 tw_36 (by decide +kernel) rfl rfl ⟨by show 0 + 1 ≤ R.frames; omega, by show 8 + (2 + 11) + 0 ≤ R.locals; omega⟩ rfl hl.1 rfl (Nat.le_of_ble_eq_true rfl) dd_RD_bind_8 ⟨by omega, by omega⟩) (fun r4 M5 H locs hw6 hP hS => ?_)
  refine W.widen (k := 2) (n := 104) (by omega) (by omega) ?_
  obtain ⟨eM5, qM5⟩ := hw6
  rw [eM5] at hP
  rcases qM5 with ⟨he, rfl⟩ | ⟨a, s9, o9, he, rfl, he2, he3, he4, he5, he6⟩
  · refine lv_astoreN (lv' := [(5, .null), (4, .ref r1), (0, .ref (N 0)), (1, .int x), (2, .int y), (3, .int (nI (bz q)))]) hx hb dd_RD_bind_11 hl (by decide) rfl (fun ls hl => ?_)
    refine lv_aloadN hx hb dd_RD_bind_13 (lv_at hl 0 rfl) ?_
    refine lv_ifnullN (tgt := 27) hx hb dd_RD_bind_15 (by decide) ?_
    exact absurd hgood (by rw [bi_ok, he]; exact Bool.false_ne_true)
  · refine lv_astore (lv' := [(5, .ref a), (4, .ref r1), (0, .ref (N 0)), (1, .int x), (2, .int y), (3, .int (nI (bz q)))]) hx hb dd_RD_bind_11 hl (by decide) rfl (fun ls hl => ?_)
    refine lv_aload hx hb dd_RD_bind_13 (lv_at hl 0 rfl) ?_
    refine lv_ifnull hx hb dd_RD_bind_15 ?_
    refine lv_aload_n hx hb dd_RD_bind_18 rfl (lv_at hl 2 rfl) ?_
    refine lv_iload_n hx hb dd_RD_bind_19 rfl (lv_at hl 4 rfl) ?_
    refine lv_iload_n hx hb dd_RD_bind_20 rfl (lv_at hl 5 rfl) ?_
    refine hm_ci hS (hm_rV 2 (As := [.int y, .int (nI (bz q))]) (rest := []) ⟨hx, hb, hml, hown, hts⟩ hE hS hP (kc_RD_isThere l B D G M2 N O hI ex hX qs hQ y q) rfl hI.o tw_327 tw_324 tw_326 tw_1 tw_36 (by decide +kernel) rfl rfl ⟨by show 1 + 1 ≤ R.frames; omega, by show 8 + (3 + 11) + 21 ≤ R.locals; omega⟩ rfl hl.1 rfl (Nat.le_of_ble_eq_true rfl) dd_RD_bind_21 ⟨by omega, by omega⟩) (fun r7 M8 H locs hw9 hP hS => ?_)
    refine W.widen (k := 2) (n := 104) (by omega) (by omega) ?_
    obtain ⟨rfl, eM8⟩ := hw9
    rw [eM8] at hP
    refine hn_if_ne (tgt := 37) hx hb (bz_b _) dd_RD_bind_24 (by decide) (fun c10 => ?_) (fun c10 => ?_)
    · have hth := bz_t c10
      refine lv_aload hx hb dd_RD_bind_37 (lv_at hl 0 rfl) ?_
      refine hm_getN (ci := 2) (C := rn_EX) (T := ft_EX) (N := 2) hx hb hts fi_EX hown hE.K hP he2 rfl 0 (by decide) (va_Nw.use rfl (hE.nest 15 rfl)) (fun _ h9 => h9) rfl dd_RD_bind_39 ?_
      refine lv_aload hx hb dd_RD_bind_42 (lv_at hl 1 rfl) ?_
      refine hm_ci hS (hm_rS 2 (As := [.int s9, .ref r1]) (rest := []) ⟨hx, hb, hml, hown, hts⟩ hE hS hP (kc_RD_isTextFor l B D G M2 O N hI s9 (hso8 x.toInt.toNat (s9, o9) (by rw [← ex_in (ex := ex) he5]; exact he)) r1 t (cz_tx htx)) tw_833 tw_831 tw_832 tw_36 (by decide +kernel) rfl rfl ⟨by show 7 + 1 ≤ R.frames; omega, by show 8 + (2 + 11) + 155 ≤ R.locals; omega⟩ rfl hl.1 rfl (Nat.le_of_ble_eq_true rfl) dd_RD_bind_44 ⟨by omega, by omega⟩) (fun r11 M12 H locs hw13 hP hS => ?_)
      refine W.widen (k := 2) (n := 104) (by omega) (by omega) ?_
      obtain ⟨rfl, eM12⟩ := hw13
      rw [eM12] at hP
      refine hn_if_ne (tgt := 60) hx hb (bz_b _) dd_RD_bind_47 (by decide) (fun c14 => ?_) (fun c14 => ?_)
      · have htf := bz_t c14
        refine lv_aload_n hx hb dd_RD_bind_60 rfl (lv_at hl 2 rfl) ?_
        refine lv_iload_n hx hb dd_RD_bind_61 rfl (lv_at hl 3 rfl) ?_
        refine lv_iload_n hx hb dd_RD_bind_62 rfl (lv_at hl 4 rfl) ?_
        refine lv_iload_n hx hb dd_RD_bind_63 rfl (lv_at hl 5 rfl) ?_
        refine lv_aload hx hb dd_RD_bind_64 (lv_at hl 1 rfl) ?_
        refine hm_ci hS (hm_rV 4 (As := [.int x, .int y, .int (nI (bz q)), .ref r1]) (rest := []) ⟨hx, hb, hml, hown, hts⟩ hE hS hP (kc_RD_placeOf l B D G M2 N O hI bs hB x y q r1 t (cz_tx htx)) rfl hI.o tw_587 tw_584 tw_586 tw_5 tw_36 (by decide +kernel) rfl rfl ⟨by show 3 + 1 ≤ R.frames; omega, by show 8 + (7 + 11) + 64 ≤ R.locals; omega⟩ rfl hl.1 rfl (Nat.le_of_ble_eq_true rfl) dd_RD_bind_66 ⟨by omega, by omega⟩) (fun r15 M16 H locs hw17 hP hS => ?_)
        refine W.widen (k := 2) (n := 104) (by omega) (by omega) ?_
        obtain ⟨kp, eM16⟩ := hw17
        rw [eM16] at hP
        rcases pl_er kp with ⟨rfl, pa, pe⟩ | ⟨i, rfl, pi, pi2, pa, pe⟩
        · refine lv_iconst (v := (-1)) hx hb dd_RD_bind_69 (by decide +kernel) ?_
          refine hi_icmp_eq (tgt := 75) hx hb dd_RD_bind_70 (by decide) (fun c18 => ?_) (fun c18 => absurd c18 (by decide))
          have c70 := c18
          rw [pa] at hany; cases hany
        · refine lv_iconst (v := (-1)) hx hb dd_RD_bind_69 (by decide +kernel) ?_
          refine hi_icmp_eq (tgt := 75) hx hb dd_RD_bind_70 (by decide) (fun c19 => ?_) (fun c19 => ?_)
          · have c70 := c19
            rw [nI_toInt (by omega), tm1] at c70; omega
          · refine lv_iconst (v := nI 0) hx hb dd_RD_bind_73 (by decide +kernel) ?_
            exact hm_Ei (v := nI 0) hx hb hr rfl hS hP (⟨rfl, O, hT, hFa⟩) hlocks (by omega) (by omega) dd_RD_bind_74
      · have htf := bz_f c14
        exact absurd hgood (by rw [bi_ok, he]; show ¬ (th_at ex qs y q && tx_for s9 t) = true; rw [htf, Bool.and_false]; exact Bool.false_ne_true)
    · have hth := bz_f c10
      exact absurd hgood (by rw [bi_ok, he]; show ¬ (th_at ex qs y q && tx_for s9 t) = true; rw [hth, Bool.false_and]; exact Bool.false_ne_true)
set_option maxHeartbeats 4000000 in
set_option maxRecDepth 100000 in
theorem kc_RD_bind1 (l : Launch) (B : Nat) (D : va_G) (G : Nat → Nat) (M : hm_M) (N O : Nat → Nat) (hI : im_R D G N O M) (t : List Nat) (hT : tp_R B D N O M t) (ex : Nat → Option (Int32 × Int32)) (hX : ex_R B D N O M ex) (qs : Nat → Bool) (hQ : qu_R B D N O M qs) (bs : List bd_T) (hB : bi_R B D G N O M bs) (hso8 : ∀ k e, ex k = some e → 0 ≤ e.1.toInt ∧ e.1.toInt ≤ 3) (x y : Int32) (q : Bool) (hgood : bi_ok ex qs t x y q = true) (hany : bs.any (bd_is x y q t) = false) (hlen : bs.length < 120) : Met l yy_RD_bind ws_RD_bind ({ frames := 8, cells := 4, slots := 310, locals := 176 }) (hm_Pc B D G M [.ref (N 0), .int x, .int y, .int (nI (bz q))]) (hm_Ni B D (fun r M1 => r = nI 1 ∧ ∃ O1, tp_R B D N O1 M1 [] ∧ bi_R B D G N O1 M1 (bs ++ [(x, y, q, t)]) ∧ cz_F O M O1 M1 (cg2 1 4))) (4) (310) (hm_A B) := by
  refine Met.ofW (cc := cd_RD_bind) (maxL := 6) (ret := ((some FieldType.boolean))) (by decide) rfl ?_
  intro p e s m args below meth c s₁ B0 hml hv
  obtain ⟨rfl, hE, hP⟩ := hv
  have hx := B0.exec
  have hb := B0.bytes
  have hr := B0.returns
  have hts : ∀ w ∈ tb_G, w.before _ s = true := fun w h => atoms_spec (ws := ws_RD_bind) B0.pre w (List.mem_cons_of_mem _ h)
  have hown : s.vm.findClass "RouteDesk" = some m.cls := findClass_of_methodNamed B0.named
  have hlocks := B0.notSynchronized
  have hRf : (headSpec ws_RD_bind { frames := 8, cells := 4, slots := 310, locals := 176 }).room.frames = 8 := rfl
  have hRl : (headSpec ws_RD_bind { frames := 8, cells := 4, slots := 310, locals := 176 }).room.locals = 176 := rfl
  have hRc : (headSpec ws_RD_bind { frames := 8, cells := 4, slots := 310, locals := 176 }).room.cells = 4 := rfl
  have hRs : (headSpec ws_RD_bind { frames := 8, cells := 4, slots := 310, locals := 176 }).room.slots = 310 := rfl
  generalize (headSpec ws_RD_bind { frames := 8, cells := 4, slots := 310, locals := 176 }).room = R at hRf hRl hRc hRs ⊢
  have hS : va_S (hm_A B) s.heap s.heap [] := va_S.rf
  have hl := lv_entry ([.ref (N 0), .int x, .int y, .int (nI (bz q))]) (n := 6) (Nat.le_of_ble_eq_true rfl)
  rw [lg_entry_eq]
  generalize (lg_sl ([.ref (N 0), .int x, .int y, .int (nI (bz q))]) ++ List.replicate (6 - (lg_sl ([.ref (N 0), .int x, .int y, .int (nI (bz q))])).length) Slot.unset).toArray = ls at hl ⊢
  have hl : lv_has ls 6 [(0, .ref (N 0)), (1, .int x), (2, .int y), (3, .int (nI (bz q)))] := hl
  have t16 : (nI 16).toInt = 16 := by decide
  have tm1 : (-1 : Int32).toInt = -1 := by decide
  have t0 : (nI 0).toInt = 0 := by decide
  have t2 : (nI 2).toInt = 2 := by decide
  have t3 : (nI 3).toInt = 3 := by decide
  refine lv_aload_n hx hb dd_RD_bind_0 rfl (lv_at hl 0 rfl) ?_
  refine hm_cr hS (hm_rV 0 (As := []) (rest := []) ⟨hx, hb, hml, hown, hts⟩ hE hS hP (kc_RD_takeTape l B D G M N O hI t hT) rfl hI.o tw_365 tw_362 tw_364 tw_3 tw_36 (by decide +kernel) rfl rfl ⟨by show 6 + 1 ≤ R.frames; omega, by show 8 + (2 + 11) + 151 ≤ R.locals; omega⟩ rfl hl.1 rfl (Nat.le_of_ble_eq_true rfl) dd_RD_bind_1 ⟨by omega, by omega⟩) (fun r1 M2 H locs hw3 hP hS => ?_)
  refine W.widen (k := 2) (n := 104) (by omega) (by omega) ?_
  have hIo := hI
  obtain ⟨O, hT, htx, hFa⟩ := hw3
  have hI := hI.kept hFa (cg_0 (by decide))
  have hX := hX.kept hFa (fun c h9 => cg_n h9 (by decide))
  have hQ := hQ.kept hFa (fun c h9 => cg_n h9 (by decide))
  have hB := hB.kept hFa hIo (fun c h9 => cg_n h9 (by decide)) (cg_0 (by decide))
  obtain ⟨d, xs, b1, b2, b3, b4, b5, b6, b7⟩ := id hB
  obtain ⟨n4, f4, mo4, bb1, bb2, bb3⟩ := id b1
  obtain ⟨f, x1, x2, x3, x4⟩ := id hX
  obtain ⟨vr1, hr1⟩ := tx_o (cz_tx htx)
  refine lv_astore (lv' := [(4, .ref r1), (0, .ref (N 0)), (1, .int x), (2, .int y), (3, .int (nI (bz q)))]) hx hb dd_RD_bind_4 hl (by decide) rfl (fun ls hl => ?_)
  refine lv_aload_n hx hb dd_RD_bind_6 rfl (lv_at hl 1 rfl) ?_
  refine lv_iload_n hx hb dd_RD_bind_7 rfl (lv_at hl 2 rfl) ?_
  refine hm_cq hS (hm_rV 1 (As := [.int x]) (rest := []) ⟨hx, hb, hml, hown, hts⟩ hE hS hP (kc_RD_exchangeAt l B D G M2 N O hI ex f ⟨x1, x2, x3, x4⟩ x) rfl hI.o tw_319 tw_316 tw_318 tw_0 tw_36 (by decide +kernel) rfl rfl ⟨by show 0 + 1 ≤ R.frames; omega, by show 8 + (2 + 11) + 0 ≤ R.locals; omega⟩ rfl hl.1 rfl (Nat.le_of_ble_eq_true rfl) dd_RD_bind_8 ⟨by omega, by omega⟩) (fun r4 M5 H locs hw6 hP hS => ?_)
  refine W.widen (k := 2) (n := 104) (by omega) (by omega) ?_
  obtain ⟨eM5, qM5⟩ := hw6
  rw [eM5] at hP
  rcases qM5 with ⟨he, rfl⟩ | ⟨a, s9, o9, he, rfl, he2, he3, he4, he5, he6⟩
  · refine lv_astoreN (lv' := [(5, .null), (4, .ref r1), (0, .ref (N 0)), (1, .int x), (2, .int y), (3, .int (nI (bz q)))]) hx hb dd_RD_bind_11 hl (by decide) rfl (fun ls hl => ?_)
    refine lv_aloadN hx hb dd_RD_bind_13 (lv_at hl 0 rfl) ?_
    refine lv_ifnullN (tgt := 27) hx hb dd_RD_bind_15 (by decide) ?_
    exact absurd hgood (by rw [bi_ok, he]; exact Bool.false_ne_true)
  · refine lv_astore (lv' := [(5, .ref a), (4, .ref r1), (0, .ref (N 0)), (1, .int x), (2, .int y), (3, .int (nI (bz q)))]) hx hb dd_RD_bind_11 hl (by decide) rfl (fun ls hl => ?_)
    refine lv_aload hx hb dd_RD_bind_13 (lv_at hl 0 rfl) ?_
    refine lv_ifnull hx hb dd_RD_bind_15 ?_
    refine lv_aload_n hx hb dd_RD_bind_18 rfl (lv_at hl 2 rfl) ?_
    refine lv_iload_n hx hb dd_RD_bind_19 rfl (lv_at hl 4 rfl) ?_
    refine lv_iload_n hx hb dd_RD_bind_20 rfl (lv_at hl 5 rfl) ?_
    refine hm_ci hS (hm_rV 2 (As := [.int y, .int (nI (bz q))]) (rest := []) ⟨hx, hb, hml, hown, hts⟩ hE hS hP (kc_RD_isThere l B D G M2 N O hI ex hX qs hQ y q) rfl hI.o tw_327 tw_324 tw_326 tw_1 tw_36 (by decide +kernel) rfl rfl ⟨by show 1 + 1 ≤ R.frames; omega, by show 8 + (3 + 11) + 21 ≤ R.locals; omega⟩ rfl hl.1 rfl (Nat.le_of_ble_eq_true rfl) dd_RD_bind_21 ⟨by omega, by omega⟩) (fun r7 M8 H locs hw9 hP hS => ?_)
    refine W.widen (k := 2) (n := 104) (by omega) (by omega) ?_
    obtain ⟨rfl, eM8⟩ := hw9
    rw [eM8] at hP
    refine hn_if_ne (tgt := 37) hx hb (bz_b _) dd_RD_bind_24 (by decide) (fun c10 => ?_) (fun c10 => ?_)
    · have hth := bz_t c10
      refine lv_aload hx hb dd_RD_bind_37 (lv_at hl 0 rfl) ?_
      refine hm_getN (ci := 2) (C := rn_EX) (T := ft_EX) (N := 2) hx hb hts fi_EX hown hE.K hP he2 rfl 0 (by decide) (va_Nw.use rfl (hE.nest 15 rfl)) (fun _ h9 => h9) rfl dd_RD_bind_39 ?_
      refine lv_aload hx hb dd_RD_bind_42 (lv_at hl 1 rfl) ?_
      refine hm_ci hS (hm_rS 2 (As := [.int s9, .ref r1]) (rest := []) ⟨hx, hb, hml, hown, hts⟩ hE hS hP (kc_RD_isTextFor l B D G M2 O N hI s9 (hso8 x.toInt.toNat (s9, o9) (by rw [← ex_in (ex := ex) he5]; exact he)) r1 t (cz_tx htx)) tw_833 tw_831 tw_832 tw_36 (by decide +kernel) rfl rfl ⟨by show 7 + 1 ≤ R.frames; omega, by show 8 + (2 + 11) + 155 ≤ R.locals; omega⟩ rfl hl.1 rfl (Nat.le_of_ble_eq_true rfl) dd_RD_bind_44 ⟨by omega, by omega⟩) (fun r11 M12 H locs hw13 hP hS => ?_)
      refine W.widen (k := 2) (n := 104) (by omega) (by omega) ?_
      obtain ⟨rfl, eM12⟩ := hw13
      rw [eM12] at hP
      refine hn_if_ne (tgt := 60) hx hb (bz_b _) dd_RD_bind_47 (by decide) (fun c14 => ?_) (fun c14 => ?_)
      · have htf := bz_t c14
        refine lv_aload_n hx hb dd_RD_bind_60 rfl (lv_at hl 2 rfl) ?_
        refine lv_iload_n hx hb dd_RD_bind_61 rfl (lv_at hl 3 rfl) ?_
        refine lv_iload_n hx hb dd_RD_bind_62 rfl (lv_at hl 4 rfl) ?_
        refine lv_iload_n hx hb dd_RD_bind_63 rfl (lv_at hl 5 rfl) ?_
        refine lv_aload hx hb dd_RD_bind_64 (lv_at hl 1 rfl) ?_
        refine hm_ci hS (hm_rV 4 (As := [.int x, .int y, .int (nI (bz q)), .ref r1]) (rest := []) ⟨hx, hb, hml, hown, hts⟩ hE hS hP (kc_RD_placeOf l B D G M2 N O hI bs hB x y q r1 t (cz_tx htx)) rfl hI.o tw_587 tw_584 tw_586 tw_5 tw_36 (by decide +kernel) rfl rfl ⟨by show 3 + 1 ≤ R.frames; omega, by show 8 + (7 + 11) + 64 ≤ R.locals; omega⟩ rfl hl.1 rfl (Nat.le_of_ble_eq_true rfl) dd_RD_bind_66 ⟨by omega, by omega⟩) (fun r15 M16 H locs hw17 hP hS => ?_)
        refine W.widen (k := 2) (n := 104) (by omega) (by omega) ?_
        obtain ⟨kp, eM16⟩ := hw17
        rw [eM16] at hP
        rcases pl_er kp with ⟨rfl, pa, pe⟩ | ⟨i, rfl, pi, pi2, pa, pe⟩
        · refine lv_iconst (v := (-1)) hx hb dd_RD_bind_69 (by decide +kernel) ?_
          refine hi_icmp_eq (tgt := 75) hx hb dd_RD_bind_70 (by decide) (fun c18 => ?_) (fun c18 => absurd c18 (by decide))
          have c70 := c18
          refine lv_aload_n hx hb dd_RD_bind_75 rfl (lv_at hl 2 rfl) ?_
          refine hm_get (ci := 0) (C := rn_RD) (T := ft_RD) (N := 6) hx hb hts fi_RD hown hE.K hP hI.o rfl 3 (by decide) (hts _ tw_187) (fun _ h9 => h9) rfl dd_RD_bind_76 ?_
          refine hm_ci hS (hm_rV 0 (As := []) (rest := []) ⟨hx, hb, hml, hown, hts⟩ hE hS hP (kc_AL_size l B D G M2 1 (N 4) xs b1.L) rfl bb1 tw_331 tw_328 tw_329 tw_330 tw_43 (by decide +kernel) rfl rfl ⟨by show 0 + 1 ≤ R.frames; omega, by show 8 + (1 + 11) + 0 ≤ R.locals; omega⟩ rfl hl.1 rfl (Nat.le_of_ble_eq_true rfl) dd_RD_bind_79 ⟨by omega, by omega⟩) (fun r19 M20 H locs hw21 hP hS => ?_)
          refine W.widen (k := 2) (n := 104) (by omega) (by omega) ?_
          obtain ⟨rfl, eM20⟩ := hw21
          rw [eM20] at hP
          refine lv_bipush (v := nI 120) hx hb dd_RD_bind_82 (by decide +kernel) ?_
          refine hn_icmp_lt (tgt := 97) hx hb (by omega) (by omega) dd_RD_bind_84 (by decide) (fun c22 => ?_) (fun c22 => absurd c22 (by omega))
          refine lv_aload_n hx hb dd_RD_bind_97 rfl (lv_at hl 2 rfl) ?_
          refine hm_get (ci := 0) (C := rn_RD) (T := ft_RD) (N := 6) hx hb hts fi_RD hown hE.K hP hI.o rfl 3 (by decide) (hts _ tw_187) (fun _ h9 => h9) rfl dd_RD_bind_98 ?_
          refine hm_new (n := 4) (ci := 1) (fs := [.int (nI 0), .int (nI 0), .int (nI 0), .null]) (C := rn_BI) (T := ft_BI) (N := 4) hx hb hts fi_BI fy_BI fo_BI hown (hts _ tw_344) (hts _ tw_866) (hts _ tw_64) hE.K hP hS rfl (fun j hj => by match j, hj with | 0, _ => rfl | 1, _ => rfl | 2, _ => rfl | 3, _ => rfl | j + 4, hj => exact absurd hj (by omega)) (by omega) (by omega) dd_RD_bind_101 (fun q23 H hB_q23 hn_q23 hP hS => ?_)
          have hA_q23 : hm_A B q23 := Nat.le_trans hE.2.1 hB_q23
          obtain ⟨M24, eM24⟩ : ∃ z, z = hm_up M2 q23 (.inr (1, [.int (nI 0), .int (nI 0), .int (nI 0), .null])) := ⟨_, rfl⟩
          rw [← eM24] at hP
          have ne25 : (N 0) ≠ q23 := hm_neN hI.o hn_q23
          have f26 : M24 (N 0) = some (.inr (0, [.ref (N 1), .ref (N 2), .ref (N 3), .ref (N 4), .ref (N 5), .ref (N 7)])) := by rw [eM24]; exact hm_up_o ne25 hI.o
          have ne27 : (N 4) ≠ q23 := hm_neN bb1 hn_q23
          have f28 : M24 (N 4) = some (.inr (9, [.ref d, .int (nI xs.length), .int mo4])) := by rw [eM24]; exact hm_up_o ne27 bb1
          have ne29 : (N 2) ≠ q23 := hm_neN x1 hn_q23
          have f30 : M24 (N 2) = some (.inl (D.1 105, 16, .inr (.inr (.inr (.inr f))))) := by rw [eM24]; exact hm_up_o ne29 x1
          have ne31 : (N 3) ≠ q23 := hm_neN hQ.1 hn_q23
          have f32 : M24 (N 3) = some (.inl (D.1 101, 16, .inl (fun k => nI (bz (qs k))))) := by rw [eM24]; exact hm_up_o ne31 hQ.1
          have ne33 : r1 ≠ q23 := hm_neN hr1 hn_q23
          have f34 : M24 r1 = some (.inr (8, [.ref vr1, .int (nI 0)])) := by rw [eM24]; exact hm_up_o ne33 hr1
          have ne35 : a ≠ q23 := hm_neN he2 hn_q23
          have f36 : M24 a = some (.inr (2, [.int s9, .int o9])) := by rw [eM24]; exact hm_up_o ne35 he2
          have f37 : M24 q23 = some (.inr (1, [.int (nI 0), .int (nI 0), .int (nI 0), .null])) := by rw [eM24]; exact hm_up_s
          refine W.widen (k := 3) (n := 108) (by omega) (by omega) ?_
          refine lv_dup hx hb dd_RD_bind_104 rfl ?_
          refine lv_iload_n hx hb dd_RD_bind_105 rfl (lv_at hl 3 rfl) ?_
          refine lv_iload_n hx hb dd_RD_bind_106 rfl (lv_at hl 4 rfl) ?_
          refine lv_iload_n hx hb dd_RD_bind_107 rfl (lv_at hl 5 rfl) ?_
          refine lv_aload hx hb dd_RD_bind_108 (lv_at hl 1 rfl) ?_
          refine hm_cv hS (hm_rI 4 (As := [.int x, .int y, .int (nI (bz q)), .ref r1]) (rest := [.ref q23, .ref (N 4)]) ⟨hx, hb, hml, hown, hts⟩ hE hS hP (kc_BI_init l B D G M24 q23 f37 hA_q23 x y q r1) tw_869 tw_867 tw_868 tw_64 rfl (by decide +kernel) rfl rfl ⟨by show 1 + 1 ≤ R.frames; omega, by show 8 + (5 + 11) + 12 ≤ R.locals; omega⟩ rfl hl.1 rfl (Nat.le_of_ble_eq_true rfl) dd_RD_bind_110 ⟨by omega, by omega⟩) (fun M39 H locs hw40 hP hS => ?_)
          refine W.widen (k := 3) (n := 108) (by omega) (by omega) ?_
          have eM39 := hw40
          have f41 : M39 (N 0) = some (.inr (0, [.ref (N 1), .ref (N 2), .ref (N 3), .ref (N 4), .ref (N 5), .ref (N 7)])) := by rw [eM39]; exact hm_up_o ne25 f26
          have f42 : M39 (N 4) = some (.inr (9, [.ref d, .int (nI xs.length), .int mo4])) := by rw [eM39]; exact hm_up_o ne27 f28
          have f43 : M39 (N 2) = some (.inl (D.1 105, 16, .inr (.inr (.inr (.inr f))))) := by rw [eM39]; exact hm_up_o ne29 f30
          have f44 : M39 (N 3) = some (.inl (D.1 101, 16, .inl (fun k => nI (bz (qs k))))) := by rw [eM39]; exact hm_up_o ne31 f32
          have f45 : M39 r1 = some (.inr (8, [.ref vr1, .int (nI 0)])) := by rw [eM39]; exact hm_up_o ne33 f34
          have f46 : M39 a = some (.inr (2, [.int s9, .int o9])) := by rw [eM39]; exact hm_up_o ne35 f36
          have f47 : M39 q23 = some (.inr (1, [.int x, .int y, .int (nI (bz q)), .ref r1])) := by rw [eM39]; exact hm_up_s
          have e3 : M39 = hm_up M2 q23 (.inr (1, [.int x, .int y, .int (nI (bz q)), .ref r1])) := by rw [eM39, eM24]; exact hm_uu
          have k3 : ∀ z e, M2 z = some e → M39 z = some e := fun z e hz => by rw [e3]; exact hm_up_o (hm_neN hz hn_q23) hz
          refine hm_ci hS (hm_rV 1 (As := [.ref q23]) (rest := []) ⟨hx, hb, hml, hown, hts⟩ hE hS hP (kc_AL_add0 l B D G M39 1 (Or.inl rfl) (N 4) d xs n4 f4 mo4 f42 (k3 _ _ bb2) bb3.1 bb3.2.1 bb3.2.2.1 (fun y9 hy9 => by
              obtain ⟨gs, h8⟩ := bb3.2.2.2.1 y9 hy9
              exact ⟨gs, k3 _ _ h8⟩) bb3.2.2.2.2 b3 (by omega) q23 ⟨_, f47⟩ (k3 _ _ hI.g)) rfl f42 tw_703 tw_888 tw_701 tw_702 tw_43 (by decide +kernel) rfl rfl ⟨by show 6 + 1 ≤ R.frames; omega, by show 8 + (2 + 11) + 150 ≤ R.locals; omega⟩ rfl hl.1 rfl (Nat.le_of_ble_eq_true rfl) dd_RD_bind_113 ⟨by omega, by omega⟩) (fun r48 M49 H locs hw50 hP hS => ?_)
          refine W.widen (k := 4) (n := 308) (by omega) (by omega) ?_
          obtain ⟨rfl, d1, a1, a2, a3, a4⟩ := hw50
          obtain ⟨O8, z1, z2⟩ := bi_add (b := (x, y, q, t)) b1 b2 b3 b4 b5 b6 hI (by omega) hn_q23 e3 a1 a2 a3 a4 htx
          refine lv_pop hx hb dd_RD_bind_116 rfl ?_
          refine lv_iconst (v := nI 1) hx hb dd_RD_bind_117 (by decide +kernel) ?_
          exact hm_Ei (v := nI 1) hx hb hr rfl hS hP (⟨rfl, O8, hT.kept z2 (fun c h9 => cg_n h9 (by decide)), z1, (hFa.mono (fun _ => cg2_l)).trans (z2.mono (fun _ => cg2_r))⟩) hlocks (by omega) (by omega) dd_RD_bind_118
        · refine lv_iconst (v := (-1)) hx hb dd_RD_bind_69 (by decide +kernel) ?_
          refine hi_icmp_eq (tgt := 75) hx hb dd_RD_bind_70 (by decide) (fun c51 => ?_) (fun c51 => ?_)
          · have c70 := c51
            rw [nI_toInt (by omega), tm1] at c70; omega
          · rw [pa] at hany; cases hany
      · have htf := bz_f c14
        exact absurd hgood (by rw [bi_ok, he]; show ¬ (th_at ex qs y q && tx_for s9 t) = true; rw [htf, Bool.and_false]; exact Bool.false_ne_true)
    · have hth := bz_f c10
      exact absurd hgood (by rw [bi_ok, he]; show ¬ (th_at ex qs y q && tx_for s9 t) = true; rw [hth, Bool.false_and]; exact Bool.false_ne_true)
set_option maxHeartbeats 4000000 in
set_option maxRecDepth 100000 in
theorem kt_RD_bind2 (l : Launch) (B : Nat) (D : va_G) (G : Nat → Nat) (M : hm_M) (hfl : l.flags = flags0) (N O : Nat → Nat) (hI : im_R D G N O M) (t : List Nat) (hT : tp_R B D N O M t) (ex : Nat → Option (Int32 × Int32)) (hX : ex_R B D N O M ex) (qs : Nat → Bool) (hQ : qu_R B D N O M qs) (bs : List bd_T) (hB : bi_R B D G N O M bs) (hso8 : ∀ k e, ex k = some e → 0 ≤ e.1.toInt ∧ e.1.toInt ≤ 3) (x y : Int32) (q : Bool) (hgood : bi_ok ex qs t x y q = true) (hany : bs.any (bd_is x y q t) = false) (hlen : bs.length = 120) : MetT l yy_RD_bind ws_RD_bind ({ frames := 8, cells := 3, slots := 110, locals := 176 }) (hm_Pc B D G M [.ref (N 0), .int x, .int y, .int (nI (bz q))]) (hm_X B D "java/lang/IllegalStateException" (fun M1 => ∃ O1, tp_R B D N O1 M1 [] ∧ cz_F O M O1 M1 (cg 1))) (3) (110) (hm_A B) := by
  refine MetT.ofW (cc := cd_RD_bind) (maxL := 6) (ret := ((some FieldType.boolean))) (by decide) rfl ?_
  intro p e s m args below meth c s₁ B0 hml hv htab
  obtain ⟨rfl, hE, hP⟩ := hv
  have hx := B0.exec
  have hb := B0.bytes
  have hr := B0.returns
  have hts : ∀ w ∈ tb_G, w.before _ s = true := fun w h => atoms_spec (ws := ws_RD_bind) B0.pre w (List.mem_cons_of_mem _ h)
  have hown : s.vm.findClass "RouteDesk" = some m.cls := findClass_of_methodNamed B0.named
  have hlocks := B0.notSynchronized
  have hRf : (headSpec ws_RD_bind { frames := 8, cells := 3, slots := 110, locals := 176 }).room.frames = 8 := rfl
  have hRl : (headSpec ws_RD_bind { frames := 8, cells := 3, slots := 110, locals := 176 }).room.locals = 176 := rfl
  have hRc : (headSpec ws_RD_bind { frames := 8, cells := 3, slots := 110, locals := 176 }).room.cells = 3 := rfl
  have hRs : (headSpec ws_RD_bind { frames := 8, cells := 3, slots := 110, locals := 176 }).room.slots = 110 := rfl
  generalize (headSpec ws_RD_bind { frames := 8, cells := 3, slots := 110, locals := 176 }).room = R at hRf hRl hRc hRs ⊢
  have hS : va_S (hm_A B) s.heap s.heap [] := va_S.rf
  have hl := lv_entry ([.ref (N 0), .int x, .int y, .int (nI (bz q))]) (n := 6) (Nat.le_of_ble_eq_true rfl)
  rw [lg_entry_eq]
  generalize (lg_sl ([.ref (N 0), .int x, .int y, .int (nI (bz q))]) ++ List.replicate (6 - (lg_sl ([.ref (N 0), .int x, .int y, .int (nI (bz q))])).length) Slot.unset).toArray = ls at hl ⊢
  have hl : lv_has ls 6 [(0, .ref (N 0)), (1, .int x), (2, .int y), (3, .int (nI (bz q)))] := hl
  have t16 : (nI 16).toInt = 16 := by decide
  have tm1 : (-1 : Int32).toInt = -1 := by decide
  have t0 : (nI 0).toInt = 0 := by decide
  have t2 : (nI 2).toInt = 2 := by decide
  have t3 : (nI 3).toInt = 3 := by decide
  refine lv_aload_n hx hb dd_RD_bind_0 rfl (lv_at hl 0 rfl) ?_
  refine hm_cr hS (hm_rV 0 (As := []) (rest := []) ⟨hx, hb, hml, hown, hts⟩ hE hS hP (kc_RD_takeTape l B D G M N O hI t hT) rfl hI.o tw_365 tw_362 tw_364 tw_3 tw_36 (by decide +kernel) rfl rfl ⟨by show 6 + 1 ≤ R.frames; omega, by show 8 + (2 + 11) + 151 ≤ R.locals; omega⟩ rfl hl.1 rfl (Nat.le_of_ble_eq_true rfl) dd_RD_bind_1 ⟨by omega, by omega⟩) (fun r1 M2 H locs hw3 hP hS => ?_)
  refine W.widen (k := 2) (n := 104) (by omega) (by omega) ?_
  have hIo := hI
  obtain ⟨O, hT, htx, hFa⟩ := hw3
  have hI := hI.kept hFa (cg_0 (by decide))
  have hX := hX.kept hFa (fun c h9 => cg_n h9 (by decide))
  have hQ := hQ.kept hFa (fun c h9 => cg_n h9 (by decide))
  have hB := hB.kept hFa hIo (fun c h9 => cg_n h9 (by decide)) (cg_0 (by decide))
  obtain ⟨d, xs, b1, b2, b3, b4, b5, b6, b7⟩ := id hB
  obtain ⟨n4, f4, mo4, bb1, bb2, bb3⟩ := id b1
  obtain ⟨f, x1, x2, x3, x4⟩ := id hX
  obtain ⟨vr1, hr1⟩ := tx_o (cz_tx htx)
  refine lv_astore (lv' := [(4, .ref r1), (0, .ref (N 0)), (1, .int x), (2, .int y), (3, .int (nI (bz q)))]) hx hb dd_RD_bind_4 hl (by decide) rfl (fun ls hl => ?_)
  refine lv_aload_n hx hb dd_RD_bind_6 rfl (lv_at hl 1 rfl) ?_
  refine lv_iload_n hx hb dd_RD_bind_7 rfl (lv_at hl 2 rfl) ?_
  refine hm_cq hS (hm_rV 1 (As := [.int x]) (rest := []) ⟨hx, hb, hml, hown, hts⟩ hE hS hP (kc_RD_exchangeAt l B D G M2 N O hI ex f ⟨x1, x2, x3, x4⟩ x) rfl hI.o tw_319 tw_316 tw_318 tw_0 tw_36 (by decide +kernel) rfl rfl ⟨by show 0 + 1 ≤ R.frames; omega, by show 8 + (2 + 11) + 0 ≤ R.locals; omega⟩ rfl hl.1 rfl (Nat.le_of_ble_eq_true rfl) dd_RD_bind_8 ⟨by omega, by omega⟩) (fun r4 M5 H locs hw6 hP hS => ?_)
  refine W.widen (k := 2) (n := 104) (by omega) (by omega) ?_
  obtain ⟨eM5, qM5⟩ := hw6
  rw [eM5] at hP
  rcases qM5 with ⟨he, rfl⟩ | ⟨a, s9, o9, he, rfl, he2, he3, he4, he5, he6⟩
  · refine lv_astoreN (lv' := [(5, .null), (4, .ref r1), (0, .ref (N 0)), (1, .int x), (2, .int y), (3, .int (nI (bz q)))]) hx hb dd_RD_bind_11 hl (by decide) rfl (fun ls hl => ?_)
    refine lv_aloadN hx hb dd_RD_bind_13 (lv_at hl 0 rfl) ?_
    refine lv_ifnullN (tgt := 27) hx hb dd_RD_bind_15 (by decide) ?_
    exact absurd hgood (by rw [bi_ok, he]; exact Bool.false_ne_true)
  · refine lv_astore (lv' := [(5, .ref a), (4, .ref r1), (0, .ref (N 0)), (1, .int x), (2, .int y), (3, .int (nI (bz q)))]) hx hb dd_RD_bind_11 hl (by decide) rfl (fun ls hl => ?_)
    refine lv_aload hx hb dd_RD_bind_13 (lv_at hl 0 rfl) ?_
    refine lv_ifnull hx hb dd_RD_bind_15 ?_
    refine lv_aload_n hx hb dd_RD_bind_18 rfl (lv_at hl 2 rfl) ?_
    refine lv_iload_n hx hb dd_RD_bind_19 rfl (lv_at hl 4 rfl) ?_
    refine lv_iload_n hx hb dd_RD_bind_20 rfl (lv_at hl 5 rfl) ?_
    refine hm_ci hS (hm_rV 2 (As := [.int y, .int (nI (bz q))]) (rest := []) ⟨hx, hb, hml, hown, hts⟩ hE hS hP (kc_RD_isThere l B D G M2 N O hI ex hX qs hQ y q) rfl hI.o tw_327 tw_324 tw_326 tw_1 tw_36 (by decide +kernel) rfl rfl ⟨by show 1 + 1 ≤ R.frames; omega, by show 8 + (3 + 11) + 21 ≤ R.locals; omega⟩ rfl hl.1 rfl (Nat.le_of_ble_eq_true rfl) dd_RD_bind_21 ⟨by omega, by omega⟩) (fun r7 M8 H locs hw9 hP hS => ?_)
    refine W.widen (k := 2) (n := 104) (by omega) (by omega) ?_
    obtain ⟨rfl, eM8⟩ := hw9
    rw [eM8] at hP
    refine hn_if_ne (tgt := 37) hx hb (bz_b _) dd_RD_bind_24 (by decide) (fun c10 => ?_) (fun c10 => ?_)
    · have hth := bz_t c10
      refine lv_aload hx hb dd_RD_bind_37 (lv_at hl 0 rfl) ?_
      refine hm_getN (ci := 2) (C := rn_EX) (T := ft_EX) (N := 2) hx hb hts fi_EX hown hE.K hP he2 rfl 0 (by decide) (va_Nw.use rfl (hE.nest 15 rfl)) (fun _ h9 => h9) rfl dd_RD_bind_39 ?_
      refine lv_aload hx hb dd_RD_bind_42 (lv_at hl 1 rfl) ?_
      refine hm_ci hS (hm_rS 2 (As := [.int s9, .ref r1]) (rest := []) ⟨hx, hb, hml, hown, hts⟩ hE hS hP (kc_RD_isTextFor l B D G M2 O N hI s9 (hso8 x.toInt.toNat (s9, o9) (by rw [← ex_in (ex := ex) he5]; exact he)) r1 t (cz_tx htx)) tw_833 tw_831 tw_832 tw_36 (by decide +kernel) rfl rfl ⟨by show 7 + 1 ≤ R.frames; omega, by show 8 + (2 + 11) + 155 ≤ R.locals; omega⟩ rfl hl.1 rfl (Nat.le_of_ble_eq_true rfl) dd_RD_bind_44 ⟨by omega, by omega⟩) (fun r11 M12 H locs hw13 hP hS => ?_)
      refine W.widen (k := 2) (n := 104) (by omega) (by omega) ?_
      obtain ⟨rfl, eM12⟩ := hw13
      rw [eM12] at hP
      refine hn_if_ne (tgt := 60) hx hb (bz_b _) dd_RD_bind_47 (by decide) (fun c14 => ?_) (fun c14 => ?_)
      · have htf := bz_t c14
        refine lv_aload_n hx hb dd_RD_bind_60 rfl (lv_at hl 2 rfl) ?_
        refine lv_iload_n hx hb dd_RD_bind_61 rfl (lv_at hl 3 rfl) ?_
        refine lv_iload_n hx hb dd_RD_bind_62 rfl (lv_at hl 4 rfl) ?_
        refine lv_iload_n hx hb dd_RD_bind_63 rfl (lv_at hl 5 rfl) ?_
        refine lv_aload hx hb dd_RD_bind_64 (lv_at hl 1 rfl) ?_
        refine hm_ci hS (hm_rV 4 (As := [.int x, .int y, .int (nI (bz q)), .ref r1]) (rest := []) ⟨hx, hb, hml, hown, hts⟩ hE hS hP (kc_RD_placeOf l B D G M2 N O hI bs hB x y q r1 t (cz_tx htx)) rfl hI.o tw_587 tw_584 tw_586 tw_5 tw_36 (by decide +kernel) rfl rfl ⟨by show 3 + 1 ≤ R.frames; omega, by show 8 + (7 + 11) + 64 ≤ R.locals; omega⟩ rfl hl.1 rfl (Nat.le_of_ble_eq_true rfl) dd_RD_bind_66 ⟨by omega, by omega⟩) (fun r15 M16 H locs hw17 hP hS => ?_)
        refine W.widen (k := 2) (n := 104) (by omega) (by omega) ?_
        obtain ⟨kp, eM16⟩ := hw17
        rw [eM16] at hP
        rcases pl_er kp with ⟨rfl, pa, pe⟩ | ⟨i, rfl, pi, pi2, pa, pe⟩
        · refine lv_iconst (v := (-1)) hx hb dd_RD_bind_69 (by decide +kernel) ?_
          refine hi_icmp_eq (tgt := 75) hx hb dd_RD_bind_70 (by decide) (fun c18 => ?_) (fun c18 => absurd c18 (by decide))
          have c70 := c18
          refine lv_aload_n hx hb dd_RD_bind_75 rfl (lv_at hl 2 rfl) ?_
          refine hm_get (ci := 0) (C := rn_RD) (T := ft_RD) (N := 6) hx hb hts fi_RD hown hE.K hP hI.o rfl 3 (by decide) (hts _ tw_187) (fun _ h9 => h9) rfl dd_RD_bind_76 ?_
          refine hm_ci hS (hm_rV 0 (As := []) (rest := []) ⟨hx, hb, hml, hown, hts⟩ hE hS hP (kc_AL_size l B D G M2 1 (N 4) xs b1.L) rfl bb1 tw_331 tw_328 tw_329 tw_330 tw_43 (by decide +kernel) rfl rfl ⟨by show 0 + 1 ≤ R.frames; omega, by show 8 + (1 + 11) + 0 ≤ R.locals; omega⟩ rfl hl.1 rfl (Nat.le_of_ble_eq_true rfl) dd_RD_bind_79 ⟨by omega, by omega⟩) (fun r19 M20 H locs hw21 hP hS => ?_)
          refine W.widen (k := 2) (n := 104) (by omega) (by omega) ?_
          obtain ⟨rfl, eM20⟩ := hw21
          rw [eM20] at hP
          refine lv_bipush (v := nI 120) hx hb dd_RD_bind_82 (by decide +kernel) ?_
          refine hn_icmp_lt (tgt := 97) hx hb (by omega) (by omega) dd_RD_bind_84 (by decide) (fun c22 => absurd c22 (by omega)) (fun c22 => ?_)
          exact xt_new (tx := "there are 120 bindings") (q := G 10) hfl ⟨hx, hb, hml, hown, hts⟩ hE hS hP (⟨O, hT, hFa⟩) htab hlocks hl.1 (by decide +kernel) (by decide +kernel) (by decide +kernel) (by decide +kernel) (by decide +kernel) (by decide +kernel) (xo_ISE hts hE) tw_799 tw_800 tw_58 (hE.str (q := ("RouteDesk", 125, "there are 120 bindings", 10)) 9 rfl) (by show 2 + 3 < R.frames; omega) (by show 0 + 1 + (13 * (2 + 1) + 42) ≤ R.locals; omega) (by omega) (by omega) (by omega) (by omega) dd_RD_bind_87 dd_RD_bind_90 dd_RD_bind_91 dd_RD_bind_93 dd_RD_bind_96
        · refine lv_iconst (v := (-1)) hx hb dd_RD_bind_69 (by decide +kernel) ?_
          refine hi_icmp_eq (tgt := 75) hx hb dd_RD_bind_70 (by decide) (fun c23 => ?_) (fun c23 => ?_)
          · have c70 := c23
            rw [nI_toInt (by omega), tm1] at c70; omega
          · rw [pa] at hany; cases hany
      · have htf := bz_f c14
        exact absurd hgood (by rw [bi_ok, he]; show ¬ (th_at ex qs y q && tx_for s9 t) = true; rw [htf, Bool.and_false]; exact Bool.false_ne_true)
    · have hth := bz_f c10
      exact absurd hgood (by rw [bi_ok, he]; show ¬ (th_at ex qs y q && tx_for s9 t) = true; rw [hth, Bool.false_and]; exact Bool.false_ne_true)
