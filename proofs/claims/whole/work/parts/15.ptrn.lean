set_option maxHeartbeats 4000000 in
set_option maxRecDepth 100000 in
theorem kc_PT_isPattern (l : Launch) (B : Nat) (D : va_G) (G : Nat → Nat) (M : hm_M) (a : Nat) (t : List Nat) (ht : tx_S D M a t) : Met l yy_PT_isPattern ws_PT_isPattern ({ frames := 6, cells := 0, slots := 0, locals := 131 }) (hm_Pc B D G M [.ref a]) (hm_Ni B D (fun r M1 => r = nI (bz ((wd_sp 46 t).all pt_ok)) ∧ M1 = M)) (0) (0) (hm_A B) := by
  refine Met.ofW (cc := cd_PT_isPattern) (maxL := 3) (ret := ((some FieldType.boolean))) (by decide) rfl ?_
  intro p e s m args below meth c s₁ B0 hml hv
  obtain ⟨rfl, hE, hP⟩ := hv
  have hx := B0.exec
  have hb := B0.bytes
  have hr := B0.returns
  have hts : ∀ w ∈ tb_G, w.before _ s = true := fun w h => atoms_spec (ws := ws_PT_isPattern) B0.pre w (List.mem_cons_of_mem _ h)
  have hown : s.vm.findClass "RouteDesk$Pattern" = some m.cls := findClass_of_methodNamed B0.named
  have hlocks := B0.notSynchronized
  have hRf : (headSpec ws_PT_isPattern { frames := 6, cells := 0, slots := 0, locals := 131 }).room.frames = 6 := rfl
  have hRl : (headSpec ws_PT_isPattern { frames := 6, cells := 0, slots := 0, locals := 131 }).room.locals = 131 := rfl
  have hRc : (headSpec ws_PT_isPattern { frames := 6, cells := 0, slots := 0, locals := 131 }).room.cells = 0 := rfl
  have hRs : (headSpec ws_PT_isPattern { frames := 6, cells := 0, slots := 0, locals := 131 }).room.slots = 0 := rfl
  generalize (headSpec ws_PT_isPattern { frames := 6, cells := 0, slots := 0, locals := 131 }).room = R at hRf hRl hRc hRs ⊢
  have hS : va_S (hm_A B) s.heap s.heap [] := va_S.rf
  have hl := lv_entry ([.ref a]) (n := 3) (Nat.le_of_ble_eq_true rfl)
  rw [lg_entry_eq]
  generalize (lg_sl ([.ref a]) ++ List.replicate (3 - (lg_sl ([.ref a])).length) Slot.unset).toArray = ls at hl ⊢
  have hl : lv_has ls 3 [(0, .ref a)] := hl
  obtain ⟨v, f, h1, h2, h3, h4, h5⟩ := id ht
  refine lv_iconst (v := nI 0) hx hb dd_PT_isPattern_0 (by decide +kernel) ?_
  refine lv_istore_n (lv' := [(1, .int (nI 0)), (0, .ref a)]) hx hb dd_PT_isPattern_1 rfl hl (by decide) rfl (fun ls hl => ?_)
  refine lv_iconst (v := nI 0) hx hb dd_PT_isPattern_2 (by decide +kernel) ?_
  refine lv_istore_n (lv' := [(2, .int (nI 0)), (1, .int (nI 0)), (0, .ref a)]) hx hb dd_PT_isPattern_3 rfl hl (by decide) rfl (fun ls hl => ?_)
  have lp4 : ∀ (n9 : Nat) (k : Nat) (fr : Nat), (k ≤ t.length + 1) → (fr ≤ k) → (k ≤ t.length ∨ fr = k) → (∀ j, fr ≤ j → j < k → ¬ t.getD j 0 = 46) → ((wd_from 46 t fr).all pt_ok = (wd_sp 46 t).all pt_ok) → t.length + 1 - k < n9 → ∀ (H : Heap) (locs : List Loc) (ls : Array Slot), hm_P D cl_W M H → va_S (hm_A B) s.heap H locs → lv_has ls 3 [(0, .ref a), (1, .int (nI fr)), (2, .int (nI k))] → W p l e R s m ([.ref a] : List Value).toArray below meth c H locs (0) (0) (MQ below (hm_Ni B D (fun r M1 => r = nI (bz ((wd_sp 46 t).all pt_ok)) ∧ M1 = M)) ([.ref a] : List Value).toArray s (0) (0) (hm_A B)) (F0 m 4 ls []) := by
    intro n9
    induction n9 with
    | zero => intro k fr hk hfk hlast hno hq hm; exact absurd hm (Nat.not_lt_zero _)
    | succ n9 ih4 =>
      intro k fr hk hfk hlast hno hq hm H locs ls hP hS hl
      refine lv_iload_n hx hb dd_PT_isPattern_4 rfl (lv_at hl 2 rfl) ?_
      refine lv_aload_n hx hb dd_PT_isPattern_5 rfl (lv_at hl 0 rfl) ?_
      refine hm_ci hS (hm_rV 0 (As := []) (rest := [.int (nI k)]) ⟨hx, hb, hml, hown, hts⟩ hE hS hP (kc_ST_length l B D G M a t ht) rfl h1 tw_490 tw_841 tw_488 tw_489 tw_39 (by decide +kernel) rfl rfl ⟨by show 1 + 1 ≤ R.frames; omega, by show 8 + (1 + 11) + 20 ≤ R.locals; omega⟩ rfl hl.1 rfl (Nat.le_of_ble_eq_true rfl) dd_PT_isPattern_6 ⟨by omega, by omega⟩) (fun r1 M2 H locs hw3 hP hS => ?_)
      refine W.widen (k := 0) (n := 0) (by omega) (by omega) ?_
      obtain ⟨rfl, eM2⟩ := hw3
      rw [eM2] at hP
      refine hn_icmp_gt (tgt := 50) hx hb (by omega) (by omega) dd_PT_isPattern_9 (by decide) (fun c4 => ?_) (fun c4 => ?_)
      · have c0 := c4
        refine lv_iconst (v := nI 1) hx hb dd_PT_isPattern_50 (by decide +kernel) ?_
        exact hm_Ei (v := nI 1) hx hb hr rfl hS hP (⟨bz_1 (by rw [← hq, wd_end 46 t (by omega)]; rfl), rfl⟩) hlocks (by omega) (by omega) dd_PT_isPattern_51
      · have c0 := c4
        refine lv_aload_n hx hb dd_PT_isPattern_12 rfl (lv_at hl 0 rfl) ?_
        refine lv_iload_n hx hb dd_PT_isPattern_13 rfl (lv_at hl 2 rfl) ?_
        refine lv_bipush (v := nI 46) hx hb dd_PT_isPattern_14 (by decide +kernel) ?_
        refine hm_ci hS (hm_rS 3 (As := [.ref a, .int (nI k), .int (nI 46)]) (rest := []) ⟨hx, hb, hml, hown, hts⟩ hE hS hP (kc_TX_isPartEnd l B D G M a t ht k (by omega) 46 (by omega)) tw_844 tw_842 tw_843 tw_62 (by decide +kernel) rfl rfl ⟨by show 4 + 1 ≤ R.frames; omega, by show 8 + (3 + 11) + 85 ≤ R.locals; omega⟩ rfl hl.1 rfl (Nat.le_of_ble_eq_true rfl) dd_PT_isPattern_16 ⟨by omega, by omega⟩) (fun r5 M6 H locs hw7 hP hS => ?_)
        refine W.widen (k := 0) (n := 0) (by omega) (by omega) ?_
        obtain ⟨rfl, eM6⟩ := hw7
        rw [eM6] at hP
        refine hn_if_eq (tgt := 44) hx hb (bz_b _) dd_PT_isPattern_19 (by decide) (fun c8 => ?_) (fun c8 => ?_)
        · have c1 := of_decide_eq_false (bz_f c8)
          refine lv_iinc (v := nI (k + 1)) (lv' := [(2, .int (nI (k + 1))), (0, .ref a), (1, .int (nI fr))]) hx hb dd_PT_isPattern_44 hl (k := 2) rfl (nI_1 k) (by decide) rfl (fun ls hl => ?_)
          refine lv_goto (tgt := 4) hx hb dd_PT_isPattern_47 (by decide) ?_
          exact ih4 (k + 1) fr (by omega) (by omega) (by omega) (fun j h8 h9 => by
              by_cases q : j = k
              · subst q; exact fun z => c1 (Or.inr z)
              · exact hno j h8 (by omega)) (hq) (by omega) _ _ _ hP hS (lv_sub hl [1, 2, 0] rfl)
        · have c1 := of_decide_eq_true (bz_t c8)
          have hst := wd_step hfk (by omega) hno (c1.elim (fun z => Or.inl (by omega)) Or.inr)
          refine lv_iload_n hx hb dd_PT_isPattern_22 rfl (lv_at hl 2 rfl) ?_
          refine lv_iload_n hx hb dd_PT_isPattern_23 rfl (lv_at hl 1 rfl) ?_
          refine hn_isub hx hb (by omega) dd_PT_isPattern_24 ?_
          refine lv_iconst (v := nI 1) hx hb dd_PT_isPattern_25 (by decide +kernel) ?_
          refine hn_icmp_le (tgt := 40) hx hb (by omega) (by omega) dd_PT_isPattern_26 (by decide) (fun c9 => ?_) (fun c9 => ?_)
          · have c2 : pt_ok (tx_sl t fr k) = true := by rw [pt_ok, tx_sl_len (by omega), decide_eq_false (by omega)]; rfl
            refine lv_iload_n hx hb dd_PT_isPattern_40 rfl (lv_at hl 2 rfl) ?_
            refine lv_iconst (v := nI 1) hx hb dd_PT_isPattern_41 (by decide +kernel) ?_
            refine hn_iadd hx hb dd_PT_isPattern_42 ?_
            refine lv_istore_n (lv' := [(1, .int (nI (k + 1))), (0, .ref a), (2, .int (nI k))]) hx hb dd_PT_isPattern_43 rfl hl (by decide) rfl (fun ls hl => ?_)
            refine lv_iinc (v := nI (k + 1)) (lv' := [(2, .int (nI (k + 1))), (1, .int (nI (k + 1))), (0, .ref a)]) hx hb dd_PT_isPattern_44 hl (k := 2) rfl (nI_1 k) (by decide) rfl (fun ls hl => ?_)
            refine lv_goto (tgt := 4) hx hb dd_PT_isPattern_47 (by decide) ?_
            exact ih4 (k + 1) (k + 1) (by omega) (Nat.le_refl _) (Or.inr rfl) (fun j h8 h9 => absurd h9 (by omega)) (by rw [← hq, hst, List.all_cons, c2, Bool.true_and]) (by omega) _ _ _ hP hS (lv_sub hl [2, 1, 0] rfl)
          · have c3 := c9
            refine lv_aload_n hx hb dd_PT_isPattern_29 rfl (lv_at hl 0 rfl) ?_
            refine lv_iload_n hx hb dd_PT_isPattern_30 rfl (lv_at hl 1 rfl) ?_
            refine lv_iload_n hx hb dd_PT_isPattern_31 rfl (lv_at hl 2 rfl) ?_
            refine hm_ci hS (hm_rS 3 (As := [.ref a, .int (nI fr), .int (nI k)]) (rest := []) ⟨hx, hb, hml, hown, hts⟩ hE hS hP (kc_PT_hasWildSign l B D G M a t ht fr k hfk (by omega)) tw_848 tw_846 tw_847 tw_61 (by decide +kernel) rfl rfl ⟨by show 5 + 1 ≤ R.frames; omega, by show 8 + (3 + 11) + 109 ≤ R.locals; omega⟩ rfl hl.1 rfl (Nat.le_of_ble_eq_true rfl) dd_PT_isPattern_32 ⟨by omega, by omega⟩) (fun r10 M11 H locs hw12 hP hS => ?_)
            refine W.widen (k := 0) (n := 0) (by omega) (by omega) ?_
            obtain ⟨rfl, eM11⟩ := hw12
            rw [eM11] at hP
            refine hn_if_eq (tgt := 40) hx hb (bz_b _) dd_PT_isPattern_35 (by decide) (fun c13 => ?_) (fun c13 => ?_)
            · have c2 : pt_ok (tx_sl t fr k) = true := by rw [pt_ok, bz_f c13, Bool.and_false]; rfl
              refine lv_iload_n hx hb dd_PT_isPattern_40 rfl (lv_at hl 2 rfl) ?_
              refine lv_iconst (v := nI 1) hx hb dd_PT_isPattern_41 (by decide +kernel) ?_
              refine hn_iadd hx hb dd_PT_isPattern_42 ?_
              refine lv_istore_n (lv' := [(1, .int (nI (k + 1))), (0, .ref a), (2, .int (nI k))]) hx hb dd_PT_isPattern_43 rfl hl (by decide) rfl (fun ls hl => ?_)
              refine lv_iinc (v := nI (k + 1)) (lv' := [(2, .int (nI (k + 1))), (1, .int (nI (k + 1))), (0, .ref a)]) hx hb dd_PT_isPattern_44 hl (k := 2) rfl (nI_1 k) (by decide) rfl (fun ls hl => ?_)
              refine lv_goto (tgt := 4) hx hb dd_PT_isPattern_47 (by decide) ?_
              exact ih4 (k + 1) (k + 1) (by omega) (Nat.le_refl _) (Or.inr rfl) (fun j h8 h9 => absurd h9 (by omega)) (by rw [← hq, hst, List.all_cons, c2, Bool.true_and]) (by omega) _ _ _ hP hS (lv_sub hl [2, 1, 0] rfl)
            · have c2 : pt_ok (tx_sl t fr k) = false := by rw [pt_ok, tx_sl_len (by omega), bz_t c13, decide_eq_true (by omega)]; rfl
              refine lv_iconst (v := nI 0) hx hb dd_PT_isPattern_38 (by decide +kernel) ?_
              exact hm_Ei (v := nI 0) hx hb hr rfl hS hP (⟨bz_0 (by rw [← hq, hst, List.all_cons, c2]; rfl), rfl⟩) hlocks (by omega) (by omega) dd_PT_isPattern_39
  exact lp4 _ 0 0 (Nat.zero_le _) (Nat.le_refl _) (Or.inl (Nat.zero_le _)) (fun j h8 h9 => absurd h9 (Nat.not_lt_zero _)) (by rw [wd_from_0]) (Nat.lt_succ_self _) _ _ _ hP hS (lv_sub hl [2, 1, 0] rfl)
