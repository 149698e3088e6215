set_option maxHeartbeats 4000000 in
set_option maxRecDepth 100000 in
theorem kc_HT_isRule (l : Launch) (B : Nat) (D : va_G) (G : Nat → Nat) (M : hm_M) (a : Nat) (t : List Nat) (ht : tx_S D M a t) (hc1 : tx_S D M (G 1) [97, 108, 108]) (hc2 : tx_S D M (G 2) [97, 110, 121]) : Met l yy_HT_isRule ws_HT_isRule ({ frames := 6, cells := 0, slots := 0, locals := 132 }) (hm_Pc B D G M [.ref a]) (hm_Ni B D (fun r M1 => r = nI (bz (ru_ok t)) ∧ M1 = M)) (0) (0) (hm_A B) := by
  refine Met.ofW (cc := cd_HT_isRule) (maxL := 4) (ret := ((some FieldType.boolean))) (by decide) rfl ?_
  intro p e s m args below meth c s₁ B0 hml hv
  obtain ⟨rfl, hE, hP⟩ := hv
  have hx := B0.exec
  have hb := B0.bytes
  have hr := B0.returns
  have hts : ∀ w ∈ tb_G, w.before _ s = true := fun w h => atoms_spec (ws := ws_HT_isRule) B0.pre w (List.mem_cons_of_mem _ h)
  have hown : s.vm.findClass "RouteDesk$HeaderText" = some m.cls := findClass_of_methodNamed B0.named
  have hlocks := B0.notSynchronized
  have hRf : (headSpec ws_HT_isRule { frames := 6, cells := 0, slots := 0, locals := 132 }).room.frames = 6 := rfl
  have hRl : (headSpec ws_HT_isRule { frames := 6, cells := 0, slots := 0, locals := 132 }).room.locals = 132 := rfl
  have hRc : (headSpec ws_HT_isRule { frames := 6, cells := 0, slots := 0, locals := 132 }).room.cells = 0 := rfl
  have hRs : (headSpec ws_HT_isRule { frames := 6, cells := 0, slots := 0, locals := 132 }).room.slots = 0 := rfl
  generalize (headSpec ws_HT_isRule { frames := 6, cells := 0, slots := 0, locals := 132 }).room = R at hRf hRl hRc hRs ⊢
  have hS : va_S (hm_A B) s.heap s.heap [] := va_S.rf
  have hl := lv_entry ([.ref a]) (n := 4) (Nat.le_of_ble_eq_true rfl)
  rw [lg_entry_eq]
  generalize (lg_sl ([.ref a]) ++ List.replicate (4 - (lg_sl ([.ref a])).length) Slot.unset).toArray = ls at hl ⊢
  have hl : lv_has ls 4 [(0, .ref a)] := hl
  obtain ⟨v, f, h1, h2, h3, h4, h5⟩ := id ht
  have J20 : ∀ (_ : True), (ru_hd t = true) → ∀ (H : Heap) (locs : List Loc) (ls : Array Slot), hm_P D cl_W M H → va_S (hm_A B) s.heap H locs → lv_has ls 4 [(0, .ref a)] → W p l e R s m ([.ref a] : List Value).toArray below meth c H locs (0) (0) (MQ below (hm_Ni B D (fun r M1 => r = nI (bz (ru_ok t)) ∧ M1 = M)) ([.ref a] : List Value).toArray s (0) (0) (hm_A B)) (F0 m 20 ls []) := by
    intro _ c1 H locs ls hP hS hl
    refine lv_aload_n hx hb dd_HT_isRule_20 rfl (lv_at hl 0 rfl) ?_
    refine lv_iconst (v := nI 3) hx hb dd_HT_isRule_21 (by decide +kernel) ?_
    refine lv_bipush (v := nI 44) hx hb dd_HT_isRule_22 (by decide +kernel) ?_
    refine hm_ci hS (hm_rS 3 (As := [.ref a, .int (nI 3), .int (nI 44)]) (rest := []) ⟨hx, hb, hml, hown, hts⟩ hE hS hP (kc_TX_isPartEnd l B D G M a t ht 3 (by omega) 44 (by omega)) tw_844 tw_861 tw_843 tw_62 (by decide +kernel) rfl rfl ⟨by show 4 + 1 ≤ R.frames; omega, by show 8 + (3 + 11) + 85 ≤ R.locals; omega⟩ rfl hl.1 rfl (Nat.le_of_ble_eq_true rfl) dd_HT_isRule_24 ⟨by omega, by omega⟩) (fun r1 M2 H locs hw3 hP hS => ?_)
    refine W.widen (k := 0) (n := 0) (by omega) (by omega) ?_
    obtain ⟨rfl, eM2⟩ := hw3
    rw [eM2] at hP
    refine hn_if_ne (tgt := 32) hx hb (bz_b _) dd_HT_isRule_27 (by decide) (fun c4 => ?_) (fun c4 => ?_)
    · have c2 := bz_t c4
      refine lv_iconst (v := nI 0) hx hb dd_HT_isRule_32 (by decide +kernel) ?_
      refine lv_istore_n (lv' := [(1, .int (nI 0)), (0, .ref a)]) hx hb dd_HT_isRule_33 rfl hl (by decide) rfl (fun ls hl => ?_)
      refine lv_iconst (v := nI 4) hx hb dd_HT_isRule_34 (by decide +kernel) ?_
      refine lv_istore_n (lv' := [(2, .int (nI 4)), (1, .int (nI 0)), (0, .ref a)]) hx hb dd_HT_isRule_35 rfl hl (by decide) rfl (fun ls hl => ?_)
      refine lv_iload_n hx hb dd_HT_isRule_36 rfl (lv_at hl 0 rfl) ?_
      refine lv_istore_n (lv' := [(3, .int (nI 4)), (2, .int (nI 4)), (1, .int (nI 0)), (0, .ref a)]) hx hb dd_HT_isRule_37 rfl hl (by decide) rfl (fun ls hl => ?_)
      have lp38 : ∀ (n9 : Nat) (k : Nat) (fr : Nat) (q : Nat), (4 ≤ k ∧ k ≤ t.length + 4) → (fr ≤ k) → (k ≤ t.length ∨ fr = k) → (q ≤ 4) → (∀ j, fr ≤ j → j < k → ¬ t.getD j 0 = 44) → (ru_go q (wd_from 44 t fr) = ru_go 0 (wd_from 44 t 4)) → t.length + 4 - k < n9 → ∀ (H : Heap) (locs : List Loc) (ls : Array Slot), hm_P D cl_W M H → va_S (hm_A B) s.heap H locs → lv_has ls 4 [(0, .ref a), (1, .int (nI q)), (2, .int (nI fr)), (3, .int (nI k))] → W p l e R s m ([.ref a] : List Value).toArray below meth c H locs (0) (0) (MQ below (hm_Ni B D (fun r M1 => r = nI (bz (ru_ok t)) ∧ M1 = M)) ([.ref a] : List Value).toArray s (0) (0) (hm_A B)) (F0 m 38 ls []) := by
        intro n9
        induction n9 with
        | zero => intro k fr q hk hfk hlast hq4 hno hq hm; exact absurd hm (Nat.not_lt_zero _)
        | succ n9 ih38 =>
          intro k fr q hk hfk hlast hq4 hno hq hm H locs ls hP hS hl
          refine lv_iload_n hx hb dd_HT_isRule_38 rfl (lv_at hl 3 rfl) ?_
          refine lv_aload_n hx hb dd_HT_isRule_39 rfl (lv_at hl 0 rfl) ?_
          refine hm_ci hS (hm_rV 0 (As := []) (rest := [.int (nI k)]) ⟨hx, hb, hml, hown, hts⟩ hE hS hP (kc_ST_length l B D G M a t ht) rfl h1 tw_490 tw_862 tw_488 tw_489 tw_39 (by decide +kernel) rfl rfl ⟨by show 1 + 1 ≤ R.frames; omega, by show 8 + (1 + 11) + 20 ≤ R.locals; omega⟩ rfl hl.1 rfl (Nat.le_of_ble_eq_true rfl) dd_HT_isRule_40 ⟨by omega, by omega⟩) (fun r5 M6 H locs hw7 hP hS => ?_)
          refine W.widen (k := 0) (n := 0) (by omega) (by omega) ?_
          obtain ⟨rfl, eM6⟩ := hw7
          rw [eM6] at hP
          refine hn_icmp_gt (tgt := 85) hx hb (by omega) (by omega) dd_HT_isRule_43 (by decide) (fun c8 => ?_) (fun c8 => ?_)
          · have c3 := c8
            refine lv_iconst (v := nI 1) hx hb dd_HT_isRule_85 (by decide +kernel) ?_
            exact hm_Ei (v := nI 1) hx hb hr rfl hS hP (⟨bz_1 (by rw [wd_end 44 t (by omega)] at hq; rw [ru_ok, c1, c2, ← hq]; rfl), rfl⟩) hlocks (by omega) (by omega) dd_HT_isRule_86
          · have c3 := c8
            refine lv_aload_n hx hb dd_HT_isRule_46 rfl (lv_at hl 0 rfl) ?_
            refine lv_iload_n hx hb dd_HT_isRule_47 rfl (lv_at hl 3 rfl) ?_
            refine lv_bipush (v := nI 44) hx hb dd_HT_isRule_48 (by decide +kernel) ?_
            refine hm_ci hS (hm_rS 3 (As := [.ref a, .int (nI k), .int (nI 44)]) (rest := []) ⟨hx, hb, hml, hown, hts⟩ hE hS hP (kc_TX_isPartEnd l B D G M a t ht k (by omega) 44 (by omega)) tw_844 tw_861 tw_843 tw_62 (by decide +kernel) rfl rfl ⟨by show 4 + 1 ≤ R.frames; omega, by show 8 + (3 + 11) + 85 ≤ R.locals; omega⟩ rfl hl.1 rfl (Nat.le_of_ble_eq_true rfl) dd_HT_isRule_50 ⟨by omega, by omega⟩) (fun r9 M10 H locs hw11 hP hS => ?_)
            refine W.widen (k := 0) (n := 0) (by omega) (by omega) ?_
            obtain ⟨rfl, eM10⟩ := hw11
            rw [eM10] at hP
            refine hn_if_eq (tgt := 79) hx hb (bz_b _) dd_HT_isRule_53 (by decide) (fun c12 => ?_) (fun c12 => ?_)
            · have c4 := of_decide_eq_false (bz_f c12)
              refine lv_iinc (v := nI (k + 1)) (lv' := [(3, .int (nI (k + 1))), (0, .ref a), (1, .int (nI q)), (2, .int (nI fr))]) hx hb dd_HT_isRule_79 hl (k := 3) rfl (nI_1 k) (by decide) rfl (fun ls hl => ?_)
              refine lv_goto (tgt := 38) hx hb dd_HT_isRule_82 (by decide) ?_
              exact ih38 (k + 1) fr q (by omega) (by omega) (by omega) (by omega) (fun j h8 h9 => by
                  by_cases q : j = k
                  · subst q; exact fun z => c4 (Or.inr z)
                  · exact hno j h8 (by omega)) (hq) (by omega) _ _ _ hP hS (lv_sub hl [1, 2, 3, 0] rfl)
            · have c4 := of_decide_eq_true (bz_t c12)
              have hst := wd_step hfk (by omega) hno (c4.elim (fun z => Or.inl (by omega)) Or.inr)
              rw [hst, ru_go] at hq
              refine lv_iinc (v := nI (q + 1)) (lv' := [(1, .int (nI (q + 1))), (0, .ref a), (2, .int (nI fr)), (3, .int (nI k))]) hx hb dd_HT_isRule_56 hl (k := 1) rfl (nI_1 q) (by decide) rfl (fun ls hl => ?_)
              refine lv_iload_n hx hb dd_HT_isRule_59 rfl (lv_at hl 0 rfl) ?_
              refine lv_iconst (v := nI 4) hx hb dd_HT_isRule_60 (by decide +kernel) ?_
              refine hn_icmp_gt (tgt := 73) hx hb (by omega) (by omega) dd_HT_isRule_61 (by decide) (fun c13 => ?_) (fun c13 => ?_)
              · have c5 := c13
                refine lv_iconst (v := nI 0) hx hb dd_HT_isRule_73 (by decide +kernel) ?_
                exact hm_Ei (v := nI 0) hx hb hr rfl hS hP (⟨bz_0 (by rw [ru_ok, c1, c2, ← hq, decide_eq_false (show ¬ q < 4 by omega), Bool.false_and, Bool.and_false, Bool.and_false]), rfl⟩) hlocks (by omega) (by omega) dd_HT_isRule_74
              · have c5 := c13
                rw [decide_eq_true (show q < 4 by omega), Bool.true_and] at hq
                refine lv_aload_n hx hb dd_HT_isRule_64 rfl (lv_at hl 1 rfl) ?_
                refine lv_iload_n hx hb dd_HT_isRule_65 rfl (lv_at hl 2 rfl) ?_
                refine lv_iload_n hx hb dd_HT_isRule_66 rfl (lv_at hl 3 rfl) ?_
                refine hm_ci hS (hm_rS 3 (As := [.ref a, .int (nI fr), .int (nI k)]) (rest := []) ⟨hx, hb, hml, hown, hts⟩ hE hS hP (kc_HT_isNameOrPair l B D G M a t ht fr k hfk (by omega)) tw_633 tw_863 tw_632 tw_63 (by decide +kernel) rfl rfl ⟨by show 5 + 1 ≤ R.frames; omega, by show 8 + (4 + 11) + 109 ≤ R.locals; omega⟩ rfl hl.1 rfl (Nat.le_of_ble_eq_true rfl) dd_HT_isRule_67 ⟨by omega, by omega⟩) (fun r14 M15 H locs hw16 hP hS => ?_)
                refine W.widen (k := 0) (n := 0) (by omega) (by omega) ?_
                obtain ⟨rfl, eM15⟩ := hw16
                rw [eM15] at hP
                refine hn_if_ne (tgt := 75) hx hb (bz_b _) dd_HT_isRule_70 (by decide) (fun c17 => ?_) (fun c17 => ?_)
                · rw [bz_t c17, Bool.true_and] at hq
                  refine lv_iload_n hx hb dd_HT_isRule_75 rfl (lv_at hl 3 rfl) ?_
                  refine lv_iconst (v := nI 1) hx hb dd_HT_isRule_76 (by decide +kernel) ?_
                  refine hn_iadd hx hb dd_HT_isRule_77 ?_
                  refine lv_istore_n (lv' := [(2, .int (nI (k + 1))), (1, .int (nI (q + 1))), (0, .ref a), (3, .int (nI k))]) hx hb dd_HT_isRule_78 rfl hl (by decide) rfl (fun ls hl => ?_)
                  refine lv_iinc (v := nI (k + 1)) (lv' := [(3, .int (nI (k + 1))), (2, .int (nI (k + 1))), (1, .int (nI (q + 1))), (0, .ref a)]) hx hb dd_HT_isRule_79 hl (k := 3) rfl (nI_1 k) (by decide) rfl (fun ls hl => ?_)
                  refine lv_goto (tgt := 38) hx hb dd_HT_isRule_82 (by decide) ?_
                  exact ih38 (k + 1) (k + 1) (q + 1) (by omega) (Nat.le_refl _) (Or.inr rfl) (by omega) (fun j h8 h9 => absurd h9 (by omega)) (hq) (by omega) _ _ _ hP hS (lv_sub hl [3, 2, 1, 0] rfl)
                · rw [bz_f c17, Bool.false_and] at hq
                  refine lv_iconst (v := nI 0) hx hb dd_HT_isRule_73 (by decide +kernel) ?_
                  exact hm_Ei (v := nI 0) hx hb hr rfl hS hP (⟨bz_0 (by rw [ru_ok, c1, c2, ← hq, Bool.and_false, Bool.and_false]), rfl⟩) hlocks (by omega) (by omega) dd_HT_isRule_74
      exact lp38 _ 4 4 0 (by omega) (Nat.le_refl _) (Or.inr rfl) (by omega) (fun j h8 h9 => absurd h9 (by omega)) (rfl) (Nat.lt_succ_self _) _ _ _ hP hS (lv_sub hl [3, 2, 1, 0] rfl)
    · have c2 := bz_f c4
      refine lv_iconst (v := nI 0) hx hb dd_HT_isRule_30 (by decide +kernel) ?_
      exact hm_Ei (v := nI 0) hx hb hr rfl hS hP (⟨bz_0 (by rw [ru_ok, c2, Bool.false_and, Bool.and_false]), rfl⟩) hlocks (by omega) (by omega) dd_HT_isRule_31
  refine lv_aload_n hx hb dd_HT_isRule_0 rfl (lv_at hl 0 rfl) ?_
  refine va_ldcS (own := "RouteDesk$HeaderText") (tx := "all") (index := 22) (q := G 1) hx hb hown (hE.str (q := ("RouteDesk$HeaderText", 22, "all", 1)) 0 rfl) dd_HT_isRule_1 ?_
  refine hm_ci hS (hm_rS 2 (As := [.ref a, .ref (G 1)]) (rest := []) ⟨hx, hb, hml, hown, hts⟩ hE hS hP (kc_TX_beginsWith l B D G M a t ht (G 1) [97, 108, 108] hc1) tw_856 tw_854 tw_855 tw_62 (by decide +kernel) rfl rfl ⟨by show 5 + 1 ≤ R.frames; omega, by show 8 + (2 + 11) + 111 ≤ R.locals; omega⟩ rfl hl.1 rfl (Nat.le_of_ble_eq_true rfl) dd_HT_isRule_3 ⟨by omega, by omega⟩) (fun r18 M19 H locs hw20 hP hS => ?_)
  refine W.widen (k := 0) (n := 0) (by omega) (by omega) ?_
  obtain ⟨rfl, eM19⟩ := hw20
  rw [eM19] at hP
  refine hn_if_ne (tgt := 20) hx hb (bz_b _) dd_HT_isRule_6 (by decide) (fun c21 => ?_) (fun c21 => ?_)
  · have c1 : ru_hd t = true := by have z := bz_t c21; simp only [List.length_cons, List.length_nil] at z; rw [ru_hd, z]; rfl
    exact J20 trivial (c1) _ _ _ hP hS (lv_sub hl [0] rfl)
  · have c0 := bz_f c21
    simp only [List.length_cons, List.length_nil] at c0
    refine lv_aload_n hx hb dd_HT_isRule_9 rfl (lv_at hl 0 rfl) ?_
    refine va_ldcS (own := "RouteDesk$HeaderText") (tx := "any") (index := 28) (q := G 2) hx hb hown (hE.str (q := ("RouteDesk$HeaderText", 28, "any", 2)) 1 rfl) dd_HT_isRule_10 ?_
    refine hm_ci hS (hm_rS 2 (As := [.ref a, .ref (G 2)]) (rest := []) ⟨hx, hb, hml, hown, hts⟩ hE hS hP (kc_TX_beginsWith l B D G M a t ht (G 2) [97, 110, 121] hc2) tw_856 tw_854 tw_855 tw_62 (by decide +kernel) rfl rfl ⟨by show 5 + 1 ≤ R.frames; omega, by show 8 + (2 + 11) + 111 ≤ R.locals; omega⟩ rfl hl.1 rfl (Nat.le_of_ble_eq_true rfl) dd_HT_isRule_12 ⟨by omega, by omega⟩) (fun r22 M23 H locs hw24 hP hS => ?_)
    refine W.widen (k := 0) (n := 0) (by omega) (by omega) ?_
    obtain ⟨rfl, eM23⟩ := hw24
    rw [eM23] at hP
    refine hn_if_ne (tgt := 20) hx hb (bz_b _) dd_HT_isRule_15 (by decide) (fun c25 => ?_) (fun c25 => ?_)
    · have c1 : ru_hd t = true := by have z := bz_t c25; simp only [List.length_cons, List.length_nil] at z; rw [ru_hd, z, Bool.or_true]
      exact J20 trivial (c1) _ _ _ hP hS (lv_sub hl [0] rfl)
    · have c1 : ru_hd t = false := by have z := bz_f c25; simp only [List.length_cons, List.length_nil] at z; rw [ru_hd, c0, z]; rfl
      refine lv_iconst (v := nI 0) hx hb dd_HT_isRule_18 (by decide +kernel) ?_
      exact hm_Ei (v := nI 0) hx hb hr rfl hS hP (⟨bz_0 (by rw [ru_ok, c1]; rfl), rfl⟩) hlocks (by omega) (by omega) dd_HT_isRule_19
