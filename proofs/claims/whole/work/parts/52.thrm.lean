/-! exchange, queue, found: what they answer, what they throw -/
theorem ex_add {B : Nat} {D : va_G} {N O : Nat → Nat} {M M1 : hm_M} {ex : Nat → Option (Int32 × Int32)} {f : Nat → Option Nat} {j q : Nat} {s o : Int32} (h : ex_D B D N O M ex f) (hj : j < 16) (hq : M q = none) (hB : B ≤ q) (e1 : M1 = hm_up (hm_up M q (.inr (2, [.int s, .int o]))) (N 2) (.inl (D.1 105, 16, .inr (.inr (.inr (.inr (va_up f j (some q)))))))) : ∃ O1, ex_R B D N O1 M1 (va_up ex j (some (s, o))) ∧ cz_F O M O1 M1 (cg 2) := by
  obtain ⟨h1, h2, h3, h4⟩ := h
  have hq2 : q ≠ N 2 := fun e => by rw [e, h1] at hq; cases hq
  have hF : cz_F O M (cz_z O M (fun _ => 201 + j)) M1 (cg 2) := fun z e hz => by
    have hzq : z ≠ q := hm_neN hz hq
    refine ⟨cz_z_o hz, fun hn => ?_, ?_⟩
    · rw [e1]; exact hm_up_o (fun e2 => hn (by rw [e2, h2]; rfl)) (hm_up_o hzq hz)
    · by_cases e2 : z = N 2
      · exact ⟨_, by rw [e1, e2]; exact hm_up_s⟩
      · exact ⟨e, by rw [e1]; exact hm_up_o e2 (hm_up_o hzq hz)⟩
  refine ⟨_, ⟨va_up f j (some q), by rw [e1]; exact hm_up_s, (cz_z_o h1).trans h2, h3, fun k hk => ?_⟩, hF⟩
  by_cases e : k = j
  · subst e
    rw [va_up_self, va_up_self]
    exact Or.inr ⟨q, s, o, rfl, rfl, by rw [e1]; exact hm_up_o hq2 hm_up_s, cz_z_n hq, hB⟩
  · rw [va_up_ne _ _ e, va_up_ne _ _ e]
    rcases h4 k hk with h9 | ⟨a2, s2, o2, g1, g2, g3, g4, g5⟩
    · exact Or.inl h9
    · exact Or.inr ⟨a2, s2, o2, g1, g2, by rw [e1]; exact hm_up_o (hm_ne g3 h1 (by intro h9; cases h9)) (hm_up_o (hm_neN g3 hq) g3), (cz_z_o g3).trans g4, g5⟩

set_option maxHeartbeats 4000000 in
set_option maxRecDepth 100000 in
theorem kc_RD_exchange (l : Launch) (B : Nat) (D : va_G) (G : Nat → Nat) (M : hm_M) (N O : Nat → Nat) (hI : im_R D G N O M) (ex : Nat → Option (Int32 × Int32)) (hX : ex_R B D N O M ex) (sx : Int32) (hs9 : 0 ≤ sx.toInt ∧ sx.toInt ≤ 3) (j : Nat) (hj : j < 16) (hfree : ex j = none) (hbef : ∀ k, k < j → ex k ≠ none) : Met l yy_RD_exchange ws_RD_exchange ({ frames := 2, cells := 1, slots := 2, locals := 33 }) (hm_Pc B D G M [.ref (N 0), .int sx]) (hm_Ni B D (fun r M1 => r = nI j ∧ ∃ O1, ex_R B D N O1 M1 (va_up ex j (some (sx, -1))) ∧ cz_F O M O1 M1 (cg 2))) (1) (2) (hm_A B) := by
  refine Met.ofW (cc := cd_RD_exchange) (maxL := 3) (ret := ((some FieldType.int))) (by decide) rfl ?_
  intro p e s m args below meth c s₁ B0 hml hv
  obtain ⟨rfl, hE, hP⟩ := hv
  have hx := B0.exec
  have hb := B0.bytes
  have hr := B0.returns
  have hts : ∀ w ∈ tb_G, w.before _ s = true := fun w h => atoms_spec (ws := ws_RD_exchange) B0.pre w (List.mem_cons_of_mem _ h)
  have hown : s.vm.findClass "RouteDesk" = some m.cls := findClass_of_methodNamed B0.named
  have hlocks := B0.notSynchronized
  have hRf : (headSpec ws_RD_exchange { frames := 2, cells := 1, slots := 2, locals := 33 }).room.frames = 2 := rfl
  have hRl : (headSpec ws_RD_exchange { frames := 2, cells := 1, slots := 2, locals := 33 }).room.locals = 33 := rfl
  have hRc : (headSpec ws_RD_exchange { frames := 2, cells := 1, slots := 2, locals := 33 }).room.cells = 1 := rfl
  have hRs : (headSpec ws_RD_exchange { frames := 2, cells := 1, slots := 2, locals := 33 }).room.slots = 2 := rfl
  generalize (headSpec ws_RD_exchange { frames := 2, cells := 1, slots := 2, locals := 33 }).room = R at hRf hRl hRc hRs ⊢
  have hS : va_S (hm_A B) s.heap s.heap [] := va_S.rf
  have hl := lv_entry ([.ref (N 0), .int sx]) (n := 3) (Nat.le_of_ble_eq_true rfl)
  rw [lg_entry_eq]
  generalize (lg_sl ([.ref (N 0), .int sx]) ++ List.replicate (3 - (lg_sl ([.ref (N 0), .int sx])).length) Slot.unset).toArray = ls at hl ⊢
  have hl : lv_has ls 3 [(0, .ref (N 0)), (1, .int sx)] := hl
  have t16 : (nI 16).toInt = 16 := by decide
  have tm1 : (-1 : Int32).toInt = -1 := by decide
  have t0 : (nI 0).toInt = 0 := by decide
  have t2 : (nI 2).toInt = 2 := by decide
  have t3 : (nI 3).toInt = 3 := by decide
  obtain ⟨f, x1, x2, x3, x4⟩ := id hX
  refine lv_iload_n hx hb dd_RD_exchange_0 rfl (lv_at hl 1 rfl) ?_
  refine hi_if_lt (tgt := 9) hx hb dd_RD_exchange_1 (by decide) (fun c1 => absurd c1 (by omega)) (fun c1 => ?_)
  refine lv_iload_n hx hb dd_RD_exchange_4 rfl (lv_at hl 1 rfl) ?_
  refine lv_iconst (v := nI 3) hx hb dd_RD_exchange_5 (by decide +kernel) ?_
  refine hi_icmp_le (tgt := 19) hx hb dd_RD_exchange_6 (by decide) (fun c2 => ?_) (fun c2 => absurd c2 (by omega))
  refine lv_iconst (v := nI 0) hx hb dd_RD_exchange_19 (by decide +kernel) ?_
  refine lv_istore_n (lv' := [(2, .int (nI 0)), (0, .ref (N 0)), (1, .int sx)]) hx hb dd_RD_exchange_20 rfl hl (by decide) rfl (fun ls hl => ?_)
  have lp21 : ∀ (n9 : Nat) (k : Nat), (k ≤ 16) → (∀ i, i < k → ex i ≠ none) → 16 - k < n9 → ∀ (H : Heap) (locs : List Loc) (ls : Array Slot), hm_P D cl_W M H → va_S (hm_A B) s.heap H locs → lv_has ls 3 [(0, .ref (N 0)), (1, .int sx), (2, .int (nI k))] → W p l e R s m ([.ref (N 0), .int sx] : List Value).toArray below meth c H locs (0) (0) (MQ below (hm_Ni B D (fun r M1 => r = nI j ∧ ∃ O1, ex_R B D N O1 M1 (va_up ex j (some (sx, -1))) ∧ cz_F O M O1 M1 (cg 2))) ([.ref (N 0), .int sx] : List Value).toArray s (1) (2) (hm_A B)) (F0 m 21 ls []) := by
    intro n9
    induction n9 with
    | zero => intro k hk hno hm; exact absurd hm (Nat.not_lt_zero _)
    | succ n9 ih21 =>
      intro k hk hno hm H locs ls hP hS hl
      refine lv_iload_n hx hb dd_RD_exchange_21 rfl (lv_at hl 2 rfl) ?_
      refine lv_bipush (v := nI 16) hx hb dd_RD_exchange_22 (by decide +kernel) ?_
      refine hn_icmp_ge (tgt := 58) hx hb (by omega) (by omega) dd_RD_exchange_24 (by decide) (fun c3 => absurd c3 (by exact fun h9 => absurd hfree (hno j (by omega)))) (fun c3 => ?_)
      refine lv_aload_n hx hb dd_RD_exchange_27 rfl (lv_at hl 0 rfl) ?_
      refine hm_get (ci := 0) (C := rn_RD) (T := ft_RD) (N := 6) hx hb hts fi_RD hown hE.K hP hI.o rfl 1 (by decide) (hts _ tw_185) (fun _ h9 => h9) rfl dd_RD_exchange_28 ?_
      refine lv_iload_n hx hb dd_RD_exchange_31 rfl (lv_at hl 2 rfl) ?_
      refine hm_aald (j := k) hx hb hE.K hP 5 x1 rfl (vp_in_nI (by omega) (by omega)) (nI_clamp (by omega)) dd_RD_exchange_32 ?_
      rcases x4 k (by omega) with ⟨g1, g2⟩ | ⟨a9, s9, o9, g1, g2, g3, g4, g5⟩
      · rw [g2]
        refine W.eq (g2 := F0 m 33 ls [.null]) rfl ?_
        refine lv_ifnonnullN hx hb dd_RD_exchange_33 ?_
        refine lv_aload_n hx hb dd_RD_exchange_36 rfl (lv_at hl 0 rfl) ?_
        refine hm_get (ci := 0) (C := rn_RD) (T := ft_RD) (N := 6) hx hb hts fi_RD hown hE.K hP hI.o rfl 1 (by decide) (hts _ tw_185) (fun _ h9 => h9) rfl dd_RD_exchange_37 ?_
        refine lv_iload_n hx hb dd_RD_exchange_40 rfl (lv_at hl 2 rfl) ?_
        refine hm_new (n := 2) (ci := 2) (fs := [.int (nI 0), .int (nI 0)]) (C := rn_EX) (T := ft_EX) (N := 2) hx hb hts fi_EX fy_EX fo_EX hown (hts _ tw_109) (hts _ tw_785) (hts _ tw_57) hE.K hP hS rfl (fun j hj => by match j, hj with | 0, _ => rfl | 1, _ => rfl | j + 2, hj => exact absurd hj (by omega)) (by omega) (by omega) dd_RD_exchange_41 (fun q4 H hB_q4 hn_q4 hP hS => ?_)
        have hA_q4 : hm_A B q4 := Nat.le_trans hE.2.1 hB_q4
        obtain ⟨M5, eM5⟩ : ∃ z, z = hm_up M q4 (.inr (2, [.int (nI 0), .int (nI 0)])) := ⟨_, rfl⟩
        rw [← eM5] at hP
        have ne6 : (N 0) ≠ q4 := hm_neN hI.o hn_q4
        have f7 : M5 (N 0) = some (.inr (0, [.ref (N 1), .ref (N 2), .ref (N 3), .ref (N 4), .ref (N 5), .ref (N 7)])) := by rw [eM5]; exact hm_up_o ne6 hI.o
        have ne8 : (N 2) ≠ q4 := hm_neN x1 hn_q4
        have f9 : M5 (N 2) = some (.inl (D.1 105, 16, .inr (.inr (.inr (.inr f))))) := by rw [eM5]; exact hm_up_o ne8 x1
        have f10 : M5 q4 = some (.inr (2, [.int (nI 0), .int (nI 0)])) := by rw [eM5]; exact hm_up_s
        refine W.widen (k := 1) (n := 2) (by omega) (by omega) ?_
        refine lv_dup hx hb dd_RD_exchange_44 rfl ?_
        refine lv_iload_n hx hb dd_RD_exchange_45 rfl (lv_at hl 1 rfl) ?_
        refine hm_cv hS (hm_rI 1 (As := [.int sx]) (rest := [.ref q4, .int (nI k), .ref (N 2)]) ⟨hx, hb, hml, hown, hts⟩ hE hS hP (kc_EX_init l B D G M5 q4 f10 hA_q4 sx) tw_788 tw_786 tw_787 tw_57 rfl (by decide +kernel) rfl rfl ⟨by show 1 + 1 ≤ R.frames; omega, by show 8 + (2 + 11) + 12 ≤ R.locals; omega⟩ rfl hl.1 rfl (Nat.le_of_ble_eq_true rfl) dd_RD_exchange_46 ⟨by omega, by omega⟩) (fun M12 H locs hw13 hP hS => ?_)
        refine W.widen (k := 1) (n := 2) (by omega) (by omega) ?_
        have eM12 := hw13
        have f14 : M12 (N 0) = some (.inr (0, [.ref (N 1), .ref (N 2), .ref (N 3), .ref (N 4), .ref (N 5), .ref (N 7)])) := by rw [eM12]; exact hm_up_o ne6 f7
        have f15 : M12 (N 2) = some (.inl (D.1 105, 16, .inr (.inr (.inr (.inr f))))) := by rw [eM12]; exact hm_up_o ne8 f9
        have f16 : M12 q4 = some (.inr (2, [.int sx, .int (-1)])) := by rw [eM12]; exact hm_up_s
        refine hm_aastS (j := k) hx hb hE.K hP hS x3 5 2 f15 rfl f16 rfl  (vp_in_nI (by omega) (by omega)) (nI_clamp (by omega)) dd_RD_exchange_49 (fun H locs hP hS => ?_)
        obtain ⟨M17, eM17⟩ : ∃ z, z = hm_up M12 (N 2) (.inl (D.1 105, 16, .inr (.inr (.inr (.inr (va_up f k (some q4))))))) := ⟨_, rfl⟩
        rw [← eM17] at hP
        have f18 : M17 (N 0) = some (.inr (0, [.ref (N 1), .ref (N 2), .ref (N 3), .ref (N 4), .ref (N 5), .ref (N 7)])) := by rw [eM17]; exact hm_up_o (hm_ne f14 f15 (by intro h9; cases h9)) f14
        have f19 : M17 q4 = some (.inr (2, [.int sx, .int (-1)])) := by rw [eM17]; exact hm_up_o (Ne.symm ne8) f16
        have f20 : M17 (N 2) = some (.inl (D.1 105, 16, .inr (.inr (.inr (.inr (va_up f k (some q4))))))) := by rw [eM17]; exact hm_up_s
        refine lv_iload_n hx hb dd_RD_exchange_50 rfl (lv_at hl 2 rfl) ?_
        have hkj : k = j := by
          by_cases h9 : k < j
          · exact absurd g1 (hbef k h9)
          · by_cases h8 : j < k
            · exact absurd hfree (hno j h8)
            · omega
        subst hkj
        exact hm_Ei (v := nI k) hx hb hr rfl hS hP (⟨rfl, ex_add ⟨x1, x2, x3, x4⟩ (by omega) hn_q4 hA_q4 (by rw [eM17, eM12, eM5]; rw [hm_uu])⟩) hlocks (by omega) (by omega) dd_RD_exchange_51
      · rw [g2]
        refine W.eq (g2 := F0 m 33 ls [.ref a9]) rfl ?_
        refine lv_ifnonnull (tgt := 52) hx hb dd_RD_exchange_33 (by decide) ?_
        refine lv_iinc (v := nI (k + 1)) (lv' := [(2, .int (nI (k + 1))), (0, .ref (N 0)), (1, .int sx)]) hx hb dd_RD_exchange_52 hl (k := 2) rfl (nI_1 k) (by decide) rfl (fun ls hl => ?_)
        refine lv_goto (tgt := 21) hx hb dd_RD_exchange_55 (by decide) ?_
        exact ih21 (k + 1) (by omega) (fun i hi => by
            by_cases h9 : i = k
            · subst h9; rw [g1]; exact fun h8 => by cases h8
            · exact hno i (by omega)) (by omega) _ _ _ hP hS (lv_sub hl [1, 2, 0] rfl)
  exact lp21 _ 0 (Nat.zero_le _) (fun j hj => absurd hj (Nat.not_lt_zero _)) (Nat.lt_succ_self _) _ _ _ hP hS (lv_sub hl [1, 2, 0] rfl)
set_option maxHeartbeats 4000000 in
set_option maxRecDepth 100000 in
theorem kt_RD_exchange1 (l : Launch) (B : Nat) (D : va_G) (G : Nat → Nat) (M : hm_M) (hfl : l.flags = flags0) (N O : Nat → Nat) (hI : im_R D G N O M) (ex : Nat → Option (Int32 × Int32)) (hX : ex_R B D N O M ex) (sx : Int32) (hs9 : ¬ (0 ≤ sx.toInt ∧ sx.toInt ≤ 3)) : MetT l yy_RD_exchange ws_RD_exchange ({ frames := 6, cells := 1, slots := 6, locals := 90 }) (hm_Pc B D G M [.ref (N 0), .int sx]) (hm_X B D "java/lang/IllegalArgumentException" (fun M1 => M1 = M)) (1) (6) (hm_A B) := by
  refine MetT.ofW (cc := cd_RD_exchange) (maxL := 3) (ret := ((some FieldType.int))) (by decide) rfl ?_
  intro p e s m args below meth c s₁ B0 hml hv htab
  obtain ⟨rfl, hE, hP⟩ := hv
  have hx := B0.exec
  have hb := B0.bytes
  have hr := B0.returns
  have hts : ∀ w ∈ tb_G, w.before _ s = true := fun w h => atoms_spec (ws := ws_RD_exchange) B0.pre w (List.mem_cons_of_mem _ h)
  have hown : s.vm.findClass "RouteDesk" = some m.cls := findClass_of_methodNamed B0.named
  have hlocks := B0.notSynchronized
  have hRf : (headSpec ws_RD_exchange { frames := 6, cells := 1, slots := 6, locals := 90 }).room.frames = 6 := rfl
  have hRl : (headSpec ws_RD_exchange { frames := 6, cells := 1, slots := 6, locals := 90 }).room.locals = 90 := rfl
  have hRc : (headSpec ws_RD_exchange { frames := 6, cells := 1, slots := 6, locals := 90 }).room.cells = 1 := rfl
  have hRs : (headSpec ws_RD_exchange { frames := 6, cells := 1, slots := 6, locals := 90 }).room.slots = 6 := rfl
  generalize (headSpec ws_RD_exchange { frames := 6, cells := 1, slots := 6, locals := 90 }).room = R at hRf hRl hRc hRs ⊢
  have hS : va_S (hm_A B) s.heap s.heap [] := va_S.rf
  have hl := lv_entry ([.ref (N 0), .int sx]) (n := 3) (Nat.le_of_ble_eq_true rfl)
  rw [lg_entry_eq]
  generalize (lg_sl ([.ref (N 0), .int sx]) ++ List.replicate (3 - (lg_sl ([.ref (N 0), .int sx])).length) Slot.unset).toArray = ls at hl ⊢
  have hl : lv_has ls 3 [(0, .ref (N 0)), (1, .int sx)] := hl
  have t16 : (nI 16).toInt = 16 := by decide
  have tm1 : (-1 : Int32).toInt = -1 := by decide
  have t0 : (nI 0).toInt = 0 := by decide
  have t2 : (nI 2).toInt = 2 := by decide
  have t3 : (nI 3).toInt = 3 := by decide
  obtain ⟨f, x1, x2, x3, x4⟩ := id hX
  refine lv_iload_n hx hb dd_RD_exchange_0 rfl (lv_at hl 1 rfl) ?_
  refine hi_if_lt (tgt := 9) hx hb dd_RD_exchange_1 (by decide) (fun c1 => ?_) (fun c1 => ?_)
  · exact xt_new (tx := "no such sort") (q := G 5) hfl ⟨hx, hb, hml, hown, hts⟩ hE hS hP (rfl) htab hlocks hl.1 (by decide +kernel) (by decide +kernel) (by decide +kernel) (by decide +kernel) (by decide +kernel) (by decide +kernel) (xo_IAE hts hE) tw_782 tw_396 tw_56 (hE.str (q := ("RouteDesk", 61, "no such sort", 5)) 4 rfl) (by show 2 + 3 < R.frames; omega) (by show 0 + 1 + (13 * (2 + 1) + 42) ≤ R.locals; omega) (by omega) (by omega) (by omega) (by omega) dd_RD_exchange_9 dd_RD_exchange_12 dd_RD_exchange_13 dd_RD_exchange_15 dd_RD_exchange_18
  · refine lv_iload_n hx hb dd_RD_exchange_4 rfl (lv_at hl 1 rfl) ?_
    refine lv_iconst (v := nI 3) hx hb dd_RD_exchange_5 (by decide +kernel) ?_
    refine hi_icmp_le (tgt := 19) hx hb dd_RD_exchange_6 (by decide) (fun c2 => absurd c2 (by omega)) (fun c2 => ?_)
    exact xt_new (tx := "no such sort") (q := G 5) hfl ⟨hx, hb, hml, hown, hts⟩ hE hS hP (rfl) htab hlocks hl.1 (by decide +kernel) (by decide +kernel) (by decide +kernel) (by decide +kernel) (by decide +kernel) (by decide +kernel) (xo_IAE hts hE) tw_782 tw_396 tw_56 (hE.str (q := ("RouteDesk", 61, "no such sort", 5)) 4 rfl) (by show 2 + 3 < R.frames; omega) (by show 0 + 1 + (13 * (2 + 1) + 42) ≤ R.locals; omega) (by omega) (by omega) (by omega) (by omega) dd_RD_exchange_9 dd_RD_exchange_12 dd_RD_exchange_13 dd_RD_exchange_15 dd_RD_exchange_18
set_option maxHeartbeats 4000000 in
set_option maxRecDepth 100000 in
theorem kt_RD_exchange2 (l : Launch) (B : Nat) (D : va_G) (G : Nat → Nat) (M : hm_M) (hfl : l.flags = flags0) (N O : Nat → Nat) (hI : im_R D G N O M) (ex : Nat → Option (Int32 × Int32)) (hX : ex_R B D N O M ex) (sx : Int32) (hs9 : 0 ≤ sx.toInt ∧ sx.toInt ≤ 3) (hfull : ∀ k, k < 16 → ex k ≠ none) : MetT l yy_RD_exchange ws_RD_exchange ({ frames := 6, cells := 1, slots := 6, locals := 90 }) (hm_Pc B D G M [.ref (N 0), .int sx]) (hm_X B D "java/lang/IllegalStateException" (fun M1 => M1 = M)) (1) (6) (hm_A B) := by
  refine MetT.ofW (cc := cd_RD_exchange) (maxL := 3) (ret := ((some FieldType.int))) (by decide) rfl ?_
  intro p e s m args below meth c s₁ B0 hml hv htab
  obtain ⟨rfl, hE, hP⟩ := hv
  have hx := B0.exec
  have hb := B0.bytes
  have hr := B0.returns
  have hts : ∀ w ∈ tb_G, w.before _ s = true := fun w h => atoms_spec (ws := ws_RD_exchange) B0.pre w (List.mem_cons_of_mem _ h)
  have hown : s.vm.findClass "RouteDesk" = some m.cls := findClass_of_methodNamed B0.named
  have hlocks := B0.notSynchronized
  have hRf : (headSpec ws_RD_exchange { frames := 6, cells := 1, slots := 6, locals := 90 }).room.frames = 6 := rfl
  have hRl : (headSpec ws_RD_exchange { frames := 6, cells := 1, slots := 6, locals := 90 }).room.locals = 90 := rfl
  have hRc : (headSpec ws_RD_exchange { frames := 6, cells := 1, slots := 6, locals := 90 }).room.cells = 1 := rfl
  have hRs : (headSpec ws_RD_exchange { frames := 6, cells := 1, slots := 6, locals := 90 }).room.slots = 6 := rfl
  generalize (headSpec ws_RD_exchange { frames := 6, cells := 1, slots := 6, locals := 90 }).room = R at hRf hRl hRc hRs ⊢
  have hS : va_S (hm_A B) s.heap s.heap [] := va_S.rf
  have hl := lv_entry ([.ref (N 0), .int sx]) (n := 3) (Nat.le_of_ble_eq_true rfl)
  rw [lg_entry_eq]
  generalize (lg_sl ([.ref (N 0), .int sx]) ++ List.replicate (3 - (lg_sl ([.ref (N 0), .int sx])).length) Slot.unset).toArray = ls at hl ⊢
  have hl : lv_has ls 3 [(0, .ref (N 0)), (1, .int sx)] := hl
  have t16 : (nI 16).toInt = 16 := by decide
  have tm1 : (-1 : Int32).toInt = -1 := by decide
  have t0 : (nI 0).toInt = 0 := by decide
  have t2 : (nI 2).toInt = 2 := by decide
  have t3 : (nI 3).toInt = 3 := by decide
  obtain ⟨f, x1, x2, x3, x4⟩ := id hX
  refine lv_iload_n hx hb dd_RD_exchange_0 rfl (lv_at hl 1 rfl) ?_
  refine hi_if_lt (tgt := 9) hx hb dd_RD_exchange_1 (by decide) (fun c1 => absurd c1 (by omega)) (fun c1 => ?_)
  refine lv_iload_n hx hb dd_RD_exchange_4 rfl (lv_at hl 1 rfl) ?_
  refine lv_iconst (v := nI 3) hx hb dd_RD_exchange_5 (by decide +kernel) ?_
  refine hi_icmp_le (tgt := 19) hx hb dd_RD_exchange_6 (by decide) (fun c2 => ?_) (fun c2 => absurd c2 (by omega))
  refine lv_iconst (v := nI 0) hx hb dd_RD_exchange_19 (by decide +kernel) ?_
  refine lv_istore_n (lv' := [(2, .int (nI 0)), (0, .ref (N 0)), (1, .int sx)]) hx hb dd_RD_exchange_20 rfl hl (by decide) rfl (fun ls hl => ?_)
  have lp21 : ∀ (n9 : Nat) (k : Nat), (k ≤ 16) → (∀ i, i < k → ex i ≠ none) → 16 - k < n9 → ∀ (H : Heap) (locs : List Loc) (ls : Array Slot), hm_P D cl_W M H → va_S (hm_A B) s.heap H locs → lv_has ls 3 [(0, .ref (N 0)), (1, .int sx), (2, .int (nI k))] → W p l e R s m ([.ref (N 0), .int sx] : List Value).toArray below meth c H locs (0) (0) (xMQ below (hm_X B D "java/lang/IllegalStateException" (fun M1 => M1 = M)) ([.ref (N 0), .int sx] : List Value).toArray s (1) (6) (hm_A B)) (F0 m 21 ls []) := by
    intro n9
    induction n9 with
    | zero => intro k hk hno hm; exact absurd hm (Nat.not_lt_zero _)
    | succ n9 ih21 =>
      intro k hk hno hm H locs ls hP hS hl
      refine lv_iload_n hx hb dd_RD_exchange_21 rfl (lv_at hl 2 rfl) ?_
      refine lv_bipush (v := nI 16) hx hb dd_RD_exchange_22 (by decide +kernel) ?_
      refine hn_icmp_ge (tgt := 58) hx hb (by omega) (by omega) dd_RD_exchange_24 (by decide) (fun c3 => ?_) (fun c3 => ?_)
      · exact xt_new (tx := "there are 16 exchanges") (q := G 6) hfl ⟨hx, hb, hml, hown, hts⟩ hE hS hP (rfl) htab hlocks hl.1 (by decide +kernel) (by decide +kernel) (by decide +kernel) (by decide +kernel) (by decide +kernel) (by decide +kernel) (xo_ISE hts hE) tw_799 tw_800 tw_58 (hE.str (q := ("RouteDesk", 71, "there are 16 exchanges", 6)) 5 rfl) (by show 2 + 3 < R.frames; omega) (by show 0 + 1 + (13 * (2 + 1) + 42) ≤ R.locals; omega) (by omega) (by omega) (by omega) (by omega) dd_RD_exchange_58 dd_RD_exchange_61 dd_RD_exchange_62 dd_RD_exchange_64 dd_RD_exchange_67
      · refine lv_aload_n hx hb dd_RD_exchange_27 rfl (lv_at hl 0 rfl) ?_
        refine hm_get (ci := 0) (C := rn_RD) (T := ft_RD) (N := 6) hx hb hts fi_RD hown hE.K hP hI.o rfl 1 (by decide) (hts _ tw_185) (fun _ h9 => h9) rfl dd_RD_exchange_28 ?_
        refine lv_iload_n hx hb dd_RD_exchange_31 rfl (lv_at hl 2 rfl) ?_
        refine hm_aald (j := k) hx hb hE.K hP 5 x1 rfl (vp_in_nI (by omega) (by omega)) (nI_clamp (by omega)) dd_RD_exchange_32 ?_
        rcases x4 k (by omega) with ⟨g1, g2⟩ | ⟨a9, s9, o9, g1, g2, g3, g4, g5⟩
        · exact absurd g1 (hfull k (by omega))
        · rw [g2]
          refine W.eq (g2 := F0 m 33 ls [.ref a9]) rfl ?_
          refine lv_ifnonnull (tgt := 52) hx hb dd_RD_exchange_33 (by decide) ?_
          refine lv_iinc (v := nI (k + 1)) (lv' := [(2, .int (nI (k + 1))), (0, .ref (N 0)), (1, .int sx)]) hx hb dd_RD_exchange_52 hl (k := 2) rfl (nI_1 k) (by decide) rfl (fun ls hl => ?_)
          refine lv_goto (tgt := 21) hx hb dd_RD_exchange_55 (by decide) ?_
          exact ih21 (k + 1) (by omega) (fun i hi => by
              by_cases h9 : i = k
              · subst h9; rw [g1]; exact fun h8 => by cases h8
              · exact hno i (by omega)) (by omega) _ _ _ hP hS (lv_sub hl [1, 2, 0] rfl)
  exact lp21 _ 0 (Nat.zero_le _) (fun j hj => absurd hj (Nat.not_lt_zero _)) (Nat.lt_succ_self _) _ _ _ hP hS (lv_sub hl [1, 2, 0] rfl)
set_option maxHeartbeats 4000000 in
set_option maxRecDepth 100000 in
theorem kc_RD_queue (l : Launch) (B : Nat) (D : va_G) (G : Nat → Nat) (M : hm_M) (N O : Nat → Nat) (hI : im_R D G N O M) (qs : Nat → Bool) (hQ : qu_R B D N O M qs) (j : Nat) (hj : j < 16) (hfree : qs j = false) (hbef : ∀ k, k < j → qs k = true) : Met l yy_RD_queue ws_RD_queue ({ frames := 0, cells := 0, slots := 0, locals := 0 }) (hm_Pc B D G M [.ref (N 0)]) (hm_Ni B D (fun r M1 => r = nI j ∧ qu_R B D N O M1 (va_up qs j true) ∧ cz_F O M O M1 (cg 3))) (0) (0) (hm_A B) := by
  refine Met.ofW (cc := cd_RD_queue) (maxL := 2) (ret := ((some FieldType.int))) (by decide) rfl ?_
  intro p e s m args below meth c s₁ B0 hml hv
  obtain ⟨rfl, hE, hP⟩ := hv
  have hx := B0.exec
  have hb := B0.bytes
  have hr := B0.returns
  have hts : ∀ w ∈ tb_G, w.before _ s = true := fun w h => atoms_spec (ws := ws_RD_queue) B0.pre w (List.mem_cons_of_mem _ h)
  have hown : s.vm.findClass "RouteDesk" = some m.cls := findClass_of_methodNamed B0.named
  have hlocks := B0.notSynchronized
  have hRf : (headSpec ws_RD_queue { frames := 0, cells := 0, slots := 0, locals := 0 }).room.frames = 0 := rfl
  have hRl : (headSpec ws_RD_queue { frames := 0, cells := 0, slots := 0, locals := 0 }).room.locals = 0 := rfl
  have hRc : (headSpec ws_RD_queue { frames := 0, cells := 0, slots := 0, locals := 0 }).room.cells = 0 := rfl
  have hRs : (headSpec ws_RD_queue { frames := 0, cells := 0, slots := 0, locals := 0 }).room.slots = 0 := rfl
  generalize (headSpec ws_RD_queue { frames := 0, cells := 0, slots := 0, locals := 0 }).room = R at hRf hRl hRc hRs ⊢
  have hS : va_S (hm_A B) s.heap s.heap [] := va_S.rf
  have hl := lv_entry ([.ref (N 0)]) (n := 2) (Nat.le_of_ble_eq_true rfl)
  rw [lg_entry_eq]
  generalize (lg_sl ([.ref (N 0)]) ++ List.replicate (2 - (lg_sl ([.ref (N 0)])).length) Slot.unset).toArray = ls at hl ⊢
  have hl : lv_has ls 2 [(0, .ref (N 0))] := hl
  refine lv_iconst (v := nI 0) hx hb dd_RD_queue_0 (by decide +kernel) ?_
  refine lv_istore_n (lv' := [(1, .int (nI 0)), (0, .ref (N 0))]) hx hb dd_RD_queue_1 rfl hl (by decide) rfl (fun ls hl => ?_)
  have lp2 : ∀ (n9 : Nat) (k : Nat), (k ≤ 16) → (∀ i, i < k → qs i = true) → 16 - k < n9 → ∀ (H : Heap) (locs : List Loc) (ls : Array Slot), hm_P D cl_W M H → va_S (hm_A B) s.heap H locs → lv_has ls 2 [(0, .ref (N 0)), (1, .int (nI k))] → W p l e R s m ([.ref (N 0)] : List Value).toArray below meth c H locs (0) (0) (MQ below (hm_Ni B D (fun r M1 => r = nI j ∧ qu_R B D N O M1 (va_up qs j true) ∧ cz_F O M O M1 (cg 3))) ([.ref (N 0)] : List Value).toArray s (0) (0) (hm_A B)) (F0 m 2 ls []) := by
    intro n9
    induction n9 with
    | zero => intro k hk hno hm; exact absurd hm (Nat.not_lt_zero _)
    | succ n9 ih2 =>
      intro k hk hno hm H locs ls hP hS hl
      refine lv_iload_n hx hb dd_RD_queue_2 rfl (lv_at hl 1 rfl) ?_
      refine lv_bipush (v := nI 16) hx hb dd_RD_queue_3 (by decide +kernel) ?_
      refine hn_icmp_ge (tgt := 32) hx hb (by omega) (by omega) dd_RD_queue_5 (by decide) (fun c1 => absurd c1 (by exact fun h9 => by rw [hno j (by omega)] at hfree; cases hfree)) (fun c1 => ?_)
      refine lv_aload_n hx hb dd_RD_queue_8 rfl (lv_at hl 0 rfl) ?_
      refine hm_get (ci := 0) (C := rn_RD) (T := ft_RD) (N := 6) hx hb hts fi_RD hown hE.K hP hI.o rfl 2 (by decide) (hts _ tw_186) (fun _ h9 => h9) rfl dd_RD_queue_9 ?_
      refine lv_iload_n hx hb dd_RD_queue_12 rfl (lv_at hl 1 rfl) ?_
      refine hm_zald (j := k) hx hb hE.K hP 1 hQ.1 rfl (vp_in_nI (by omega) (by omega)) (nI_clamp (by omega)) dd_RD_queue_13 ?_
      refine W.eq (g2 := F0 m 14 ls [.int (nI (bz (qs k)))]) rfl ?_
      refine hn_if_ne (tgt := 26) hx hb (bz_b _) dd_RD_queue_14 (by decide) (fun c2 => ?_) (fun c2 => ?_)
      · have c4 := bz_t c2
        refine lv_iinc (v := nI (k + 1)) (lv' := [(1, .int (nI (k + 1))), (0, .ref (N 0))]) hx hb dd_RD_queue_26 hl (k := 1) rfl (nI_1 k) (by decide) rfl (fun ls hl => ?_)
        refine lv_goto (tgt := 2) hx hb dd_RD_queue_29 (by decide) ?_
        exact ih2 (k + 1) (by omega) (fun i hi => by
            by_cases h9 : i = k
            · subst h9; exact c4
            · exact hno i (by omega)) (by omega) _ _ _ hP hS (lv_sub hl [1, 0] rfl)
      · have c4 := bz_f c2
        refine lv_aload_n hx hb dd_RD_queue_17 rfl (lv_at hl 0 rfl) ?_
        refine hm_get (ci := 0) (C := rn_RD) (T := ft_RD) (N := 6) hx hb hts fi_RD hown hE.K hP hI.o rfl 2 (by decide) (hts _ tw_186) (fun _ h9 => h9) rfl dd_RD_queue_18 ?_
        refine lv_iload_n hx hb dd_RD_queue_21 rfl (lv_at hl 1 rfl) ?_
        refine lv_iconst (v := nI 1) hx hb dd_RD_queue_22 (by decide +kernel) ?_
        refine hm_zast (y := nI (bz true)) (j := k) hx hb hE.K hP hS hQ.2.2 1 hQ.1 rfl (vp_in_nI (by omega) (by omega)) (nI_clamp (by omega)) rfl dd_RD_queue_23 (fun H locs hP hS => ?_)
        obtain ⟨M3, eM3⟩ : ∃ z, z = hm_up M (N 3) (.inl (D.1 101, 16, .inl (upd (fun k => nI (bz (qs k))) k (nI (bz true))))) := ⟨_, rfl⟩
        rw [← eM3] at hP
        have f4 : M3 (N 0) = some (.inr (0, [.ref (N 1), .ref (N 2), .ref (N 3), .ref (N 4), .ref (N 5), .ref (N 7)])) := by rw [eM3]; exact hm_up_o (hm_ne hI.o hQ.1 (by intro h9; cases h9)) hI.o
        have f5 : M3 (N 3) = some (.inl (D.1 101, 16, .inl (upd (fun k => nI (bz (qs k))) k (nI (bz true))))) := by rw [eM3]; exact hm_up_s
        refine lv_iload_n hx hb dd_RD_queue_24 rfl (lv_at hl 1 rfl) ?_
        have hkj : k = j := by
          by_cases h9 : k < j
          · rw [hbef k h9] at c4; cases c4
          · by_cases h8 : j < k
            · rw [hno j h8] at hfree; cases hfree
            · omega
        subst hkj
        exact hm_Ei (v := nI k) hx hb hr rfl hS hP (⟨rfl, ⟨by rw [← bz_up]; exact f5, hQ.2⟩, by rw [eM3]; exact cz_F.up (by rw [hQ.2.1]; rfl)⟩) hlocks (by omega) (by omega) dd_RD_queue_25
  exact lp2 _ 0 (Nat.zero_le _) (fun j hj => absurd hj (Nat.not_lt_zero _)) (Nat.lt_succ_self _) _ _ _ hP hS (lv_sub hl [1, 0] rfl)
set_option maxHeartbeats 4000000 in
set_option maxRecDepth 100000 in
theorem kt_RD_queue (l : Launch) (B : Nat) (D : va_G) (G : Nat → Nat) (M : hm_M) (hfl : l.flags = flags0) (N O : Nat → Nat) (hI : im_R D G N O M) (qs : Nat → Bool) (hQ : qu_R B D N O M qs) (hfull : ∀ k, k < 16 → qs k = true) : MetT l yy_RD_queue ws_RD_queue ({ frames := 6, cells := 1, slots := 6, locals := 90 }) (hm_Pc B D G M [.ref (N 0)]) (hm_X B D "java/lang/IllegalStateException" (fun M1 => M1 = M)) (1) (6) (hm_A B) := by
  refine MetT.ofW (cc := cd_RD_queue) (maxL := 2) (ret := ((some FieldType.int))) (by decide) rfl ?_
  intro p e s m args below meth c s₁ B0 hml hv htab
  obtain ⟨rfl, hE, hP⟩ := hv
  have hx := B0.exec
  have hb := B0.bytes
  have hr := B0.returns
  have hts : ∀ w ∈ tb_G, w.before _ s = true := fun w h => atoms_spec (ws := ws_RD_queue) B0.pre w (List.mem_cons_of_mem _ h)
  have hown : s.vm.findClass "RouteDesk" = some m.cls := findClass_of_methodNamed B0.named
  have hlocks := B0.notSynchronized
  have hRf : (headSpec ws_RD_queue { frames := 6, cells := 1, slots := 6, locals := 90 }).room.frames = 6 := rfl
  have hRl : (headSpec ws_RD_queue { frames := 6, cells := 1, slots := 6, locals := 90 }).room.locals = 90 := rfl
  have hRc : (headSpec ws_RD_queue { frames := 6, cells := 1, slots := 6, locals := 90 }).room.cells = 1 := rfl
  have hRs : (headSpec ws_RD_queue { frames := 6, cells := 1, slots := 6, locals := 90 }).room.slots = 6 := rfl
  generalize (headSpec ws_RD_queue { frames := 6, cells := 1, slots := 6, locals := 90 }).room = R at hRf hRl hRc hRs ⊢
  have hS : va_S (hm_A B) s.heap s.heap [] := va_S.rf
  have hl := lv_entry ([.ref (N 0)]) (n := 2) (Nat.le_of_ble_eq_true rfl)
  rw [lg_entry_eq]
  generalize (lg_sl ([.ref (N 0)]) ++ List.replicate (2 - (lg_sl ([.ref (N 0)])).length) Slot.unset).toArray = ls at hl ⊢
  have hl : lv_has ls 2 [(0, .ref (N 0))] := hl
  refine lv_iconst (v := nI 0) hx hb dd_RD_queue_0 (by decide +kernel) ?_
  refine lv_istore_n (lv' := [(1, .int (nI 0)), (0, .ref (N 0))]) hx hb dd_RD_queue_1 rfl hl (by decide) rfl (fun ls hl => ?_)
  have lp2 : ∀ (n9 : Nat) (k : Nat), (k ≤ 16) → (∀ i, i < k → qs i = true) → 16 - k < n9 → ∀ (H : Heap) (locs : List Loc) (ls : Array Slot), hm_P D cl_W M H → va_S (hm_A B) s.heap H locs → lv_has ls 2 [(0, .ref (N 0)), (1, .int (nI k))] → W p l e R s m ([.ref (N 0)] : List Value).toArray below meth c H locs (0) (0) (xMQ below (hm_X B D "java/lang/IllegalStateException" (fun M1 => M1 = M)) ([.ref (N 0)] : List Value).toArray s (1) (6) (hm_A B)) (F0 m 2 ls []) := by
    intro n9
    induction n9 with
    | zero => intro k hk hno hm; exact absurd hm (Nat.not_lt_zero _)
    | succ n9 ih2 =>
      intro k hk hno hm H locs ls hP hS hl
      refine lv_iload_n hx hb dd_RD_queue_2 rfl (lv_at hl 1 rfl) ?_
      refine lv_bipush (v := nI 16) hx hb dd_RD_queue_3 (by decide +kernel) ?_
      refine hn_icmp_ge (tgt := 32) hx hb (by omega) (by omega) dd_RD_queue_5 (by decide) (fun c1 => ?_) (fun c1 => ?_)
      · exact xt_new (tx := "there are 16 queues") (q := G 7) hfl ⟨hx, hb, hml, hown, hts⟩ hE hS hP (rfl) htab hlocks hl.1 (by decide +kernel) (by decide +kernel) (by decide +kernel) (by decide +kernel) (by decide +kernel) (by decide +kernel) (xo_ISE hts hE) tw_799 tw_800 tw_58 (hE.str (q := ("RouteDesk", 82, "there are 16 queues", 7)) 6 rfl) (by show 2 + 3 < R.frames; omega) (by show 0 + 1 + (13 * (2 + 1) + 42) ≤ R.locals; omega) (by omega) (by omega) (by omega) (by omega) dd_RD_queue_32 dd_RD_queue_35 dd_RD_queue_36 dd_RD_queue_38 dd_RD_queue_41
      · refine lv_aload_n hx hb dd_RD_queue_8 rfl (lv_at hl 0 rfl) ?_
        refine hm_get (ci := 0) (C := rn_RD) (T := ft_RD) (N := 6) hx hb hts fi_RD hown hE.K hP hI.o rfl 2 (by decide) (hts _ tw_186) (fun _ h9 => h9) rfl dd_RD_queue_9 ?_
        refine lv_iload_n hx hb dd_RD_queue_12 rfl (lv_at hl 1 rfl) ?_
        refine hm_zald (j := k) hx hb hE.K hP 1 hQ.1 rfl (vp_in_nI (by omega) (by omega)) (nI_clamp (by omega)) dd_RD_queue_13 ?_
        refine W.eq (g2 := F0 m 14 ls [.int (nI (bz (qs k)))]) rfl ?_
        refine hn_if_ne (tgt := 26) hx hb (bz_b _) dd_RD_queue_14 (by decide) (fun c2 => ?_) (fun c2 => absurd c2 (by rw [hfull k (by omega)]; decide))
        have c4 := bz_t c2
        refine lv_iinc (v := nI (k + 1)) (lv' := [(1, .int (nI (k + 1))), (0, .ref (N 0))]) hx hb dd_RD_queue_26 hl (k := 1) rfl (nI_1 k) (by decide) rfl (fun ls hl => ?_)
        refine lv_goto (tgt := 2) hx hb dd_RD_queue_29 (by decide) ?_
        exact ih2 (k + 1) (by omega) (fun i hi => by
            by_cases h9 : i = k
            · subst h9; exact c4
            · exact hno i (by omega)) (by omega) _ _ _ hP hS (lv_sub hl [1, 0] rfl)
  exact lp2 _ 0 (Nat.zero_le _) (fun j hj => absurd hj (Nat.not_lt_zero _)) (Nat.lt_succ_self _) _ _ _ hP hS (lv_sub hl [1, 0] rfl)
set_option maxHeartbeats 4000000 in
set_option maxRecDepth 100000 in
theorem kc_RD_found (l : Launch) (B : Nat) (D : va_G) (G : Nat → Nat) (M : hm_M) (N O : Nat → Nat) (hI : im_R D G N O M) (ps : Nat → Bool) (od : Nat → Int32) (fo : Nat → Bool) (hR : rt_R B D N O M ps od fo) (i : Int32) (hne : ¬ fo_r fo i = -1) : Met l yy_RD_found ws_RD_found ({ frames := 1, cells := 0, slots := 0, locals := 23 }) (hm_Pc B D G M [.ref (N 0), .int i]) (hm_Ni B D (fun r M1 => r = fo_r fo i ∧ M1 = M)) (0) (0) (hm_A B) := by
  refine Met.ofW (cc := cd_RD_found) (maxL := 3) (ret := ((some FieldType.int))) (by decide) rfl ?_
  intro p e s m args below meth c s₁ B0 hml hv
  obtain ⟨rfl, hE, hP⟩ := hv
  have hx := B0.exec
  have hb := B0.bytes
  have hr := B0.returns
  have hts : ∀ w ∈ tb_G, w.before _ s = true := fun w h => atoms_spec (ws := ws_RD_found) B0.pre w (List.mem_cons_of_mem _ h)
  have hown : s.vm.findClass "RouteDesk" = some m.cls := findClass_of_methodNamed B0.named
  have hlocks := B0.notSynchronized
  have hRf : (headSpec ws_RD_found { frames := 1, cells := 0, slots := 0, locals := 23 }).room.frames = 1 := rfl
  have hRl : (headSpec ws_RD_found { frames := 1, cells := 0, slots := 0, locals := 23 }).room.locals = 23 := rfl
  have hRc : (headSpec ws_RD_found { frames := 1, cells := 0, slots := 0, locals := 23 }).room.cells = 0 := rfl
  have hRs : (headSpec ws_RD_found { frames := 1, cells := 0, slots := 0, locals := 23 }).room.slots = 0 := rfl
  generalize (headSpec ws_RD_found { frames := 1, cells := 0, slots := 0, locals := 23 }).room = R at hRf hRl hRc hRs ⊢
  have hS : va_S (hm_A B) s.heap s.heap [] := va_S.rf
  have hl := lv_entry ([.ref (N 0), .int i]) (n := 3) (Nat.le_of_ble_eq_true rfl)
  rw [lg_entry_eq]
  generalize (lg_sl ([.ref (N 0), .int i]) ++ List.replicate (3 - (lg_sl ([.ref (N 0), .int i])).length) Slot.unset).toArray = ls at hl ⊢
  have hl : lv_has ls 3 [(0, .ref (N 0)), (1, .int i)] := hl
  obtain ⟨r1, r2, r3, r4, ⟨ro1, ro2, ro3, ro4⟩, ⟨rb1, rb2, rb3, rb4⟩⟩ := id hR
  have rp := qu_le ps
  have rf := qu_le fo
  refine lv_aload_n hx hb dd_RD_found_0 rfl (lv_at hl 0 rfl) ?_
  refine hm_get (ci := 0) (C := rn_RD) (T := ft_RD) (N := 6) hx hb hts fi_RD hown hE.K hP hI.o rfl 5 (by decide) (hts _ tw_189) (fun _ h9 => h9) rfl dd_RD_found_1 ?_
  refine lv_iload_n hx hb dd_RD_found_4 rfl (lv_at hl 1 rfl) ?_
  refine hm_ci hS (hm_rV 1 (As := [.int i]) (rest := []) ⟨hx, hb, hml, hown, hts⟩ hE hS hP (kc_RT_foundAt l B D G M N O ps od fo hR i) rfl r1 tw_963 tw_960 tw_961 tw_962 tw_45 (by decide +kernel) rfl rfl ⟨by show 0 + 1 ≤ R.frames; omega, by show 8 + (4 + 11) + 0 ≤ R.locals; omega⟩ rfl hl.1 rfl (Nat.le_of_ble_eq_true rfl) dd_RD_found_5 ⟨by omega, by omega⟩) (fun r1 M2 H locs hw3 hP hS => ?_)
  refine W.widen (k := 0) (n := 0) (by omega) (by omega) ?_
  obtain ⟨rfl, eM2⟩ := hw3
  rw [eM2] at hP
  refine lv_istore_n (lv' := [(2, .int (fo_r fo i)), (0, .ref (N 0)), (1, .int i)]) hx hb dd_RD_found_8 rfl hl (by decide) rfl (fun ls hl => ?_)
  refine lv_iload_n hx hb dd_RD_found_9 rfl (lv_at hl 0 rfl) ?_
  refine lv_iconst (v := (-1)) hx hb dd_RD_found_10 (by decide +kernel) ?_
  refine hi_icmp_ne (tgt := 24) hx hb dd_RD_found_11 (by decide) (fun c4 => ?_) (fun c4 => absurd c4 (by exact fun h9 => hne (hi_eq (by omega))))
  refine lv_iload_n hx hb dd_RD_found_24 rfl (lv_at hl 0 rfl) ?_
  exact hm_Ei (v := (fo_r fo i)) hx hb hr rfl hS hP (⟨rfl, rfl⟩) hlocks (by omega) (by omega) dd_RD_found_25
set_option maxHeartbeats 4000000 in
set_option maxRecDepth 100000 in
theorem kt_RD_found (l : Launch) (B : Nat) (D : va_G) (G : Nat → Nat) (M : hm_M) (hfl : l.flags = flags0) (N O : Nat → Nat) (hI : im_R D G N O M) (ps : Nat → Bool) (od : Nat → Int32) (fo : Nat → Bool) (hR : rt_R B D N O M ps od fo) (i : Int32) (hne : fo_r fo i = -1) : MetT l yy_RD_found ws_RD_found ({ frames := 6, cells := 1, slots := 6, locals := 90 }) (hm_Pc B D G M [.ref (N 0), .int i]) (hm_X B D "java/util/NoSuchElementException" (fun M1 => M1 = M)) (1) (6) (hm_A B) := by
  refine MetT.ofW (cc := cd_RD_found) (maxL := 3) (ret := ((some FieldType.int))) (by decide) rfl ?_
  intro p e s m args below meth c s₁ B0 hml hv htab
  obtain ⟨rfl, hE, hP⟩ := hv
  have hx := B0.exec
  have hb := B0.bytes
  have hr := B0.returns
  have hts : ∀ w ∈ tb_G, w.before _ s = true := fun w h => atoms_spec (ws := ws_RD_found) B0.pre w (List.mem_cons_of_mem _ h)
  have hown : s.vm.findClass "RouteDesk" = some m.cls := findClass_of_methodNamed B0.named
  have hlocks := B0.notSynchronized
  have hRf : (headSpec ws_RD_found { frames := 6, cells := 1, slots := 6, locals := 90 }).room.frames = 6 := rfl
  have hRl : (headSpec ws_RD_found { frames := 6, cells := 1, slots := 6, locals := 90 }).room.locals = 90 := rfl
  have hRc : (headSpec ws_RD_found { frames := 6, cells := 1, slots := 6, locals := 90 }).room.cells = 1 := rfl
  have hRs : (headSpec ws_RD_found { frames := 6, cells := 1, slots := 6, locals := 90 }).room.slots = 6 := rfl
  generalize (headSpec ws_RD_found { frames := 6, cells := 1, slots := 6, locals := 90 }).room = R at hRf hRl hRc hRs ⊢
  have hS : va_S (hm_A B) s.heap s.heap [] := va_S.rf
  have hl := lv_entry ([.ref (N 0), .int i]) (n := 3) (Nat.le_of_ble_eq_true rfl)
  rw [lg_entry_eq]
  generalize (lg_sl ([.ref (N 0), .int i]) ++ List.replicate (3 - (lg_sl ([.ref (N 0), .int i])).length) Slot.unset).toArray = ls at hl ⊢
  have hl : lv_has ls 3 [(0, .ref (N 0)), (1, .int i)] := hl
  obtain ⟨r1, r2, r3, r4, ⟨ro1, ro2, ro3, ro4⟩, ⟨rb1, rb2, rb3, rb4⟩⟩ := id hR
  have rp := qu_le ps
  have rf := qu_le fo
  refine lv_aload_n hx hb dd_RD_found_0 rfl (lv_at hl 0 rfl) ?_
  refine hm_get (ci := 0) (C := rn_RD) (T := ft_RD) (N := 6) hx hb hts fi_RD hown hE.K hP hI.o rfl 5 (by decide) (hts _ tw_189) (fun _ h9 => h9) rfl dd_RD_found_1 ?_
  refine lv_iload_n hx hb dd_RD_found_4 rfl (lv_at hl 1 rfl) ?_
  refine hm_ci hS (hm_rV 1 (As := [.int i]) (rest := []) ⟨hx, hb, hml, hown, hts⟩ hE hS hP (kc_RT_foundAt l B D G M N O ps od fo hR i) rfl r1 tw_963 tw_960 tw_961 tw_962 tw_45 (by decide +kernel) rfl rfl ⟨by show 0 + 1 ≤ R.frames; omega, by show 8 + (4 + 11) + 0 ≤ R.locals; omega⟩ rfl hl.1 rfl (Nat.le_of_ble_eq_true rfl) dd_RD_found_5 ⟨by omega, by omega⟩) (fun r1 M2 H locs hw3 hP hS => ?_)
  refine W.widen (k := 0) (n := 0) (by omega) (by omega) ?_
  obtain ⟨rfl, eM2⟩ := hw3
  rw [eM2] at hP
  refine lv_istore_n (lv' := [(2, .int (fo_r fo i)), (0, .ref (N 0)), (1, .int i)]) hx hb dd_RD_found_8 rfl hl (by decide) rfl (fun ls hl => ?_)
  refine lv_iload_n hx hb dd_RD_found_9 rfl (lv_at hl 0 rfl) ?_
  refine lv_iconst (v := (-1)) hx hb dd_RD_found_10 (by decide +kernel) ?_
  refine hi_icmp_ne (tgt := 24) hx hb dd_RD_found_11 (by decide) (fun c4 => absurd c4 (by rw [hne]; exact fun h9 => h9 rfl)) (fun c4 => ?_)
  exact xt_new (tx := "no such queue was found") (q := G 12) hfl ⟨hx, hb, hml, hown, hts⟩ hE hS hP (rfl) htab hlocks hl.1 (by decide +kernel) (by decide +kernel) (by decide +kernel) (by decide +kernel) (by decide +kernel) (by decide +kernel) (xo_NSE hts hE) tw_964 tw_965 tw_67 (hE.str (q := ("RouteDesk", 184, "no such queue was found", 12)) 11 rfl) (by show 2 + 3 < R.frames; omega) (by show 0 + 1 + (13 * (2 + 1) + 42) ≤ R.locals; omega) (by omega) (by omega) (by omega) (by omega) dd_RD_found_14 dd_RD_found_17 dd_RD_found_18 dd_RD_found_20 dd_RD_found_23
