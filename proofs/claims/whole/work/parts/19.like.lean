set_option maxHeartbeats 4000000 in
set_option maxRecDepth 100000 in
theorem kc_PT_isLike (l : Launch) (B : Nat) (D : va_G) (G : Nat → Nat) (M : hm_M) (a : Nat) (t : List Nat) (ht : tx_S D M a t) (b : Nat) (u : List Nat) (hu : tx_S D M b u) (hul : u.length ≤ 60) : Met l yy_PT_isLike ws_PT_isLike ({ frames := 6, cells := 0, slots := 0, locals := 143 }) (hm_Pc B D G M [.ref a, .ref b]) (hm_Ni B D (fun r M1 => r = nI (bz (tp_like t u)) ∧ M1 = M)) (0) (0) (hm_A B) := by
  refine Met.ofW (cc := cd_PT_isLike) (maxL := 6) (ret := ((some FieldType.boolean))) (by decide) rfl ?_
  intro p e s m args below meth c s₁ B0 hml hv
  obtain ⟨rfl, hE, hP⟩ := hv
  have hx := B0.exec
  have hb := B0.bytes
  have hr := B0.returns
  have hts : ∀ w ∈ tb_G, w.before _ s = true := fun w h => atoms_spec (ws := ws_PT_isLike) B0.pre w (List.mem_cons_of_mem _ h)
  have hown : s.vm.findClass "RouteDesk$Pattern" = some m.cls := findClass_of_methodNamed B0.named
  have hlocks := B0.notSynchronized
  have hRf : (headSpec ws_PT_isLike { frames := 6, cells := 0, slots := 0, locals := 143 }).room.frames = 6 := rfl
  have hRl : (headSpec ws_PT_isLike { frames := 6, cells := 0, slots := 0, locals := 143 }).room.locals = 143 := rfl
  have hRc : (headSpec ws_PT_isLike { frames := 6, cells := 0, slots := 0, locals := 143 }).room.cells = 0 := rfl
  have hRs : (headSpec ws_PT_isLike { frames := 6, cells := 0, slots := 0, locals := 143 }).room.slots = 0 := rfl
  generalize (headSpec ws_PT_isLike { frames := 6, cells := 0, slots := 0, locals := 143 }).room = R at hRf hRl hRc hRs ⊢
  have hS : va_S (hm_A B) s.heap s.heap [] := va_S.rf
  have hl := lv_entry ([.ref a, .ref b]) (n := 6) (Nat.le_of_ble_eq_true rfl)
  rw [lg_entry_eq]
  generalize (lg_sl ([.ref a, .ref b]) ++ List.replicate (6 - (lg_sl ([.ref a, .ref b])).length) Slot.unset).toArray = ls at hl ⊢
  have hl : lv_has ls 6 [(0, .ref a), (1, .ref b)] := hl
  obtain ⟨v, f, h1, h2, h3, h4, h5⟩ := id ht
  obtain ⟨w, g, g1, g2, g3, g4, g5⟩ := id hu
  have hwl := wd_len 46 u
  have J77 : ∀ (x : Int64), (∀ k, k < 64 → lb x k = tp_fin (wd_sp 46 t) (wd_sp 46 u) k) → ∀ (H : Heap) (locs : List Loc) (ls : Array Slot), hm_P D cl_W M H → va_S (hm_A B) s.heap H locs → lv_has ls 6 [(0, .ref a), (1, .ref b), (2, .long x)] → W p l e R s m ([.ref a, .ref b] : List Value).toArray below meth c H locs (0) (0) (MQ below (hm_Ni B D (fun r M1 => r = nI (bz (tp_like t u)) ∧ M1 = M)) ([.ref a, .ref b] : List Value).toArray s (0) (0) (hm_A B)) (F0 m 77 ls []) := by
    intro x hx9 H locs ls hP hS hl
    refine lv_lload_n hx hb dd_PT_isLike_77 rfl (lv_at hl 2 rfl) ?_
    refine lv_aload_n hx hb dd_PT_isLike_78 rfl (lv_at hl 1 rfl) ?_
    refine hm_ci hS (hm_rS 1 (As := [.ref b]) (rest := [.long x]) ⟨hx, hb, hml, hown, hts⟩ hE hS hP (kc_PT_countWords l B D G M b u hu) tw_932 tw_930 tw_931 tw_61 (by decide +kernel) rfl rfl ⟨by show 4 + 1 ≤ R.frames; omega, by show 8 + (3 + 11) + 85 ≤ R.locals; omega⟩ rfl hl.1 rfl (Nat.le_of_ble_eq_true rfl) dd_PT_isLike_79 ⟨by omega, by omega⟩) (fun r1 M2 H locs hw3 hP hS => ?_)
    refine W.widen (k := 0) (n := 0) (by omega) (by omega) ?_
    obtain ⟨rfl, eM2⟩ := hw3
    rw [eM2] at hP
    refine lv_lushr hx hb dd_PT_isLike_82 rfl ?_
    refine lv_topl (fun w4 ew4 => ?_)
    refine lv_lconst (v := 1) hx hb dd_PT_isLike_83 (by decide +kernel) ?_
    refine lv_land hx hb dd_PT_isLike_84 ?_
    refine lv_topl (fun w5 ew5 => ?_)
    refine lv_lconst (v := 0) hx hb dd_PT_isLike_85 (by decide +kernel) ?_
    refine W.lcmp hx hb dd_PT_isLike_86 ?_
    refine hi_if_eq (tgt := 94) hx hb dd_PT_isLike_87 (by decide) (fun c6 => ?_) (fun c6 => ?_)
    · have c9 : tp_like t u = false := by
        have z := lc_eq c6
        rw [ew5, ew4] at z
        rw [tp_like, ← hx9 _ (by omega)]
        exact (lb_test (by omega)).mp z
      refine lv_iconst (v := nI 0) hx hb dd_PT_isLike_94 (by decide +kernel) ?_
      exact hm_Ei (v := nI 0) hx hb hr rfl hS hP (⟨bz_0 c9, rfl⟩) hlocks (by omega) (by omega) dd_PT_isLike_95
    · have c9 : tp_like t u = true := by
        have z := lc_ne c6
        rw [ew5, ew4] at z
        rw [tp_like, ← hx9 _ (by omega)]
        cases hq : lb x (wd_sp 46 u).length
        · exact absurd ((lb_test (by omega)).mpr hq) z
        · rfl
      refine lv_iconst (v := nI 1) hx hb dd_PT_isLike_90 (by decide +kernel) ?_
      refine lv_goto (tgt := 95) hx hb dd_PT_isLike_91 (by decide) ?_
      exact hm_Ei (v := nI 1) hx hb hr rfl hS hP (⟨bz_1 c9, rfl⟩) hlocks (by omega) (by omega) dd_PT_isLike_95
  refine lv_lconst (v := 1) hx hb dd_PT_isLike_0 (by decide +kernel) ?_
  refine lv_lstore_n (lv' := [(2, .long 1), (0, .ref a), (1, .ref b)]) hx hb dd_PT_isLike_1 rfl hl (by decide) rfl (fun ls hl => ?_)
  refine lv_iconst (v := nI 0) hx hb dd_PT_isLike_2 (by decide +kernel) ?_
  refine lv_istore (lv' := [(4, .int (nI 0)), (2, .long 1), (0, .ref a), (1, .ref b)]) hx hb dd_PT_isLike_3 hl (by decide) rfl (fun ls hl => ?_)
  refine lv_iconst (v := nI 0) hx hb dd_PT_isLike_5 (by decide +kernel) ?_
  refine lv_istore (lv' := [(5, .int (nI 0)), (4, .int (nI 0)), (2, .long 1), (0, .ref a), (1, .ref b)]) hx hb dd_PT_isLike_6 hl (by decide) rfl (fun ls hl => ?_)
  have lp8 : ∀ (n9 : Nat) (k : Nat) (fr : Nat) (x : Int64) (S : Nat → Bool), (k ≤ t.length + 1) → (fr ≤ k) → (k ≤ t.length ∨ fr = k) → (∀ j, fr ≤ j → j < k → ¬ t.getD j 0 = 46) → (∀ q, q < 64 → lb x q = S q) → ((wd_from 46 t fr).foldl (dp_st (wd_sp 46 u)) S = tp_fin (wd_sp 46 t) (wd_sp 46 u)) → t.length + 1 - k < n9 → ∀ (H : Heap) (locs : List Loc) (ls : Array Slot), hm_P D cl_W M H → va_S (hm_A B) s.heap H locs → lv_has ls 6 [(0, .ref a), (1, .ref b), (2, .long x), (4, .int (nI fr)), (5, .int (nI k))] → W p l e R s m ([.ref a, .ref b] : List Value).toArray below meth c H locs (0) (0) (MQ below (hm_Ni B D (fun r M1 => r = nI (bz (tp_like t u)) ∧ M1 = M)) ([.ref a, .ref b] : List Value).toArray s (0) (0) (hm_A B)) (F0 m 8 ls []) := by
    intro n9
    induction n9 with
    | zero => intro k fr x S hk hfk hlast hno hS9 hfo hm; exact absurd hm (Nat.not_lt_zero _)
    | succ n9 ih8 =>
      intro k fr x S hk hfk hlast hno hS9 hfo hm H locs ls hP hS hl
      refine lv_iload hx hb dd_PT_isLike_8 (lv_at hl 4 rfl) ?_
      refine lv_aload_n hx hb dd_PT_isLike_10 rfl (lv_at hl 0 rfl) ?_
      refine hm_ci hS (hm_rV 0 (As := []) (rest := [.int (nI k)]) ⟨hx, hb, hml, hown, hts⟩ hE hS hP (kc_ST_length l B D G M a t ht) rfl h1 tw_490 tw_841 tw_488 tw_489 tw_39 (by decide +kernel) rfl rfl ⟨by show 1 + 1 ≤ R.frames; omega, by show 8 + (1 + 11) + 20 ≤ R.locals; omega⟩ rfl hl.1 rfl (Nat.le_of_ble_eq_true rfl) dd_PT_isLike_11 ⟨by omega, by omega⟩) (fun r7 M8 H locs hw9 hP hS => ?_)
      refine W.widen (k := 0) (n := 0) (by omega) (by omega) ?_
      obtain ⟨rfl, eM8⟩ := hw9
      rw [eM8] at hP
      refine hn_icmp_gt (tgt := 77) hx hb (by omega) (by omega) dd_PT_isLike_14 (by decide) (fun c10 => ?_) (fun c10 => ?_)
      · have c2 := c10
        exact J77 x (by
            intro k hk
            rw [hS9 k hk]
            rw [wd_end 46 t (by omega)] at hfo
            exact congrFun hfo k) _ _ _ hP hS (lv_sub hl [0, 1, 2] rfl)
      · have c2 := c10
        refine lv_lload_n hx hb dd_PT_isLike_17 rfl (lv_at hl 2 rfl) ?_
        refine lv_lconst (v := 0) hx hb dd_PT_isLike_18 (by decide +kernel) ?_
        refine W.lcmp hx hb dd_PT_isLike_19 ?_
        refine hi_if_eq (tgt := 77) hx hb dd_PT_isLike_20 (by decide) (fun c11 => ?_) (fun c11 => ?_)
        · have c3 := lc_eq c11
          exact J77 x (by
              intro k hk
              have z := dp_dead (kw := wd_sp 46 u) (wd_from 46 t fr) S (fun q hq => by rw [← hS9 q hq, c3, lb_zero]) k hk
              rw [hfo] at z
              rw [hS9 k hk, z, ← hS9 k hk, c3, lb_zero]) _ _ _ hP hS (lv_sub hl [0, 1, 2] rfl)
        · have c3 := lc_ne c11
          refine lv_aload_n hx hb dd_PT_isLike_23 rfl (lv_at hl 0 rfl) ?_
          refine lv_iload hx hb dd_PT_isLike_24 (lv_at hl 4 rfl) ?_
          refine lv_bipush (v := nI 46) hx hb dd_PT_isLike_26 (by decide +kernel) ?_
          refine hm_ci hS (hm_rS 3 (As := [.ref a, .int (nI k), .int (nI 46)]) (rest := []) ⟨hx, hb, hml, hown, hts⟩ hE hS hP (kc_TX_isPartEnd l B D G M a t ht k (by omega) 46 (by omega)) tw_844 tw_842 tw_843 tw_62 (by decide +kernel) rfl rfl ⟨by show 4 + 1 ≤ R.frames; omega, by show 8 + (3 + 11) + 85 ≤ R.locals; omega⟩ rfl hl.1 rfl (Nat.le_of_ble_eq_true rfl) dd_PT_isLike_28 ⟨by omega, by omega⟩) (fun r12 M13 H locs hw14 hP hS => ?_)
          refine W.widen (k := 0) (n := 0) (by omega) (by omega) ?_
          obtain ⟨rfl, eM13⟩ := hw14
          rw [eM13] at hP
          refine hn_if_eq (tgt := 71) hx hb (bz_b _) dd_PT_isLike_31 (by decide) (fun c15 => ?_) (fun c15 => ?_)
          · have c4 := of_decide_eq_false (bz_f c15)
            refine lv_iinc (v := nI (k + 1)) (lv' := [(5, .int (nI (k + 1))), (0, .ref a), (1, .ref b), (2, .long x), (4, .int (nI fr))]) hx hb dd_PT_isLike_71 hl (k := 4) rfl (nI_1 k) (by decide) rfl (fun ls hl => ?_)
            refine lv_goto (tgt := 8) hx hb dd_PT_isLike_74 (by decide) ?_
            exact ih8 (k + 1) fr x S (by omega) (by omega) (by omega) (fun j h8 h9 => by
                by_cases q : j = k
                · subst q; exact fun z => c4 (Or.inr z)
                · exact hno j h8 (by omega)) (hS9) (hfo) (by omega) _ _ _ hP hS (lv_sub hl [1, 2, 3, 4, 0] rfl)
          · have c4 := of_decide_eq_true (bz_t c15)
            have hst := wd_step hfk (by omega) hno (c4.elim (fun z => Or.inl (by omega)) Or.inr)
            rw [hst, List.foldl_cons] at hfo
            refine lv_aload_n hx hb dd_PT_isLike_34 rfl (lv_at hl 0 rfl) ?_
            refine lv_iload hx hb dd_PT_isLike_35 (lv_at hl 3 rfl) ?_
            refine lv_iload hx hb dd_PT_isLike_37 (lv_at hl 4 rfl) ?_
            refine lv_bipush (v := nI 35) hx hb dd_PT_isLike_39 (by decide +kernel) ?_
            refine hm_ci hS (hm_rS 4 (As := [.ref a, .int (nI fr), .int (nI k), .int (nI 35)]) (rest := []) ⟨hx, hb, hml, hown, hts⟩ hE hS hP (kc_PT_isJust l B D G M a t ht fr k hfk (by omega) 35 (by omega)) tw_918 tw_916 tw_917 tw_61 (by decide +kernel) rfl rfl ⟨by show 4 + 1 ≤ R.frames; omega, by show 8 + (4 + 11) + 85 ≤ R.locals; omega⟩ rfl hl.1 rfl (Nat.le_of_ble_eq_true rfl) dd_PT_isLike_41 ⟨by omega, by omega⟩) (fun r16 M17 H locs hw18 hP hS => ?_)
            refine W.widen (k := 0) (n := 0) (by omega) (by omega) ?_
            obtain ⟨rfl, eM17⟩ := hw18
            rw [eM17] at hP
            refine hn_if_eq (tgt := 54) hx hb (bz_b _) dd_PT_isLike_44 (by decide) (fun c19 => ?_) (fun c19 => ?_)
            · have c5 := of_decide_eq_false (bz_f c19)
              refine lv_lload_n hx hb dd_PT_isLike_54 rfl (lv_at hl 2 rfl) ?_
              refine lv_aload_n hx hb dd_PT_isLike_55 rfl (lv_at hl 0 rfl) ?_
              refine lv_iload hx hb dd_PT_isLike_56 (lv_at hl 3 rfl) ?_
              refine lv_iload hx hb dd_PT_isLike_58 (lv_at hl 4 rfl) ?_
              refine lv_aload_n hx hb dd_PT_isLike_60 rfl (lv_at hl 1 rfl) ?_
              refine hm_cl hS (hm_rS 5 (As := [.long x, .ref a, .int (nI fr), .int (nI k), .ref b]) (rest := []) ⟨hx, hb, hml, hown, hts⟩ hE hS hP (kc_PT_afterOneWord l B D G M x a t ht fr k hfk (by omega) b u hu hul) tw_928 tw_926 tw_927 tw_61 (by decide +kernel) rfl rfl ⟨by show 5 + 1 ≤ R.frames; omega, by show 8 + (13 + 11) + 111 ≤ R.locals; omega⟩ rfl hl.1 rfl (Nat.le_of_ble_eq_true rfl) dd_PT_isLike_61 ⟨by omega, by omega⟩) (fun r20 M21 H locs hw22 hP hS => ?_)
              refine W.widen (k := 0) (n := 0) (by omega) (by omega) ?_
              obtain ⟨hone, eM21⟩ := hw22
              rw [eM21] at hP
              have hnew : ∀ q, q < 64 → lb r20 q = dp_st (wd_sp 46 u) S (tx_sl t fr k) q := by
                intro q hq
                rw [hone q hq, dp_st, if_neg c5, dp_one, dp_one, hS9 (q - 1) (by omega)]
              refine lv_lstore_n (lv' := [(2, .long r20), (0, .ref a), (1, .ref b), (4, .int (nI fr)), (5, .int (nI k))]) hx hb dd_PT_isLike_64 rfl hl (by decide) rfl (fun ls hl => ?_)
              refine lv_iload hx hb dd_PT_isLike_65 (lv_at hl 4 rfl) ?_
              refine lv_iconst (v := nI 1) hx hb dd_PT_isLike_67 (by decide +kernel) ?_
              refine hn_iadd hx hb dd_PT_isLike_68 ?_
              refine lv_istore (lv' := [(4, .int (nI (k + 1))), (2, .long r20), (0, .ref a), (1, .ref b), (5, .int (nI k))]) hx hb dd_PT_isLike_69 hl (by decide) rfl (fun ls hl => ?_)
              refine lv_iinc (v := nI (k + 1)) (lv' := [(5, .int (nI (k + 1))), (4, .int (nI (k + 1))), (2, .long r20), (0, .ref a), (1, .ref b)]) hx hb dd_PT_isLike_71 hl (k := 4) rfl (nI_1 k) (by decide) rfl (fun ls hl => ?_)
              refine lv_goto (tgt := 8) hx hb dd_PT_isLike_74 (by decide) ?_
              exact ih8 (k + 1) (k + 1) r20 (dp_st (wd_sp 46 u) S (tx_sl t fr k)) (by omega) (Nat.le_refl _) (Or.inr rfl) (fun j h8 h9 => absurd h9 (by omega)) (hnew) (hfo) (by omega) _ _ _ hP hS (lv_sub hl [3, 4, 2, 1, 0] rfl)
            · have c5 := of_decide_eq_true (bz_t c19)
              refine lv_lload_n hx hb dd_PT_isLike_47 rfl (lv_at hl 2 rfl) ?_
              refine hm_cl hS (hm_rS 1 (As := [.long x]) (rest := []) ⟨hx, hb, hml, hown, hts⟩ hE hS hP (kc_PT_afterAnyWords l B D G M x) tw_922 tw_920 tw_921 tw_61 (by decide +kernel) rfl rfl ⟨by show 1 + 1 ≤ R.frames; omega, by show 8 + (2 + 11) + 21 ≤ R.locals; omega⟩ rfl hl.1 rfl (Nat.le_of_ble_eq_true rfl) dd_PT_isLike_48 ⟨by omega, by omega⟩) (fun r23 M24 H locs hw25 hP hS => ?_)
              refine W.widen (k := 0) (n := 0) (by omega) (by omega) ?_
              obtain ⟨rfl, eM24⟩ := hw25
              rw [eM24] at hP
              have hnew : ∀ q, q < 64 → lb (-(x &&& (-x))) q = dp_st (wd_sp 46 u) S (tx_sl t fr k) q := by
                intro q hq
                rw [lb_any hq, dp_st, if_pos c5, dp_any]
                apply decide_eq_decide.mpr
                constructor
                · rintro ⟨j, z1, z2⟩; exact ⟨j, z1, by rw [← hS9 j (by omega)]; exact z2⟩
                · rintro ⟨j, z1, z2⟩; exact ⟨j, z1, by rw [hS9 j (by omega)]; exact z2⟩
              refine lv_goto (tgt := 64) hx hb dd_PT_isLike_51 (by decide) ?_
              refine lv_lstore_n (lv' := [(2, .long (-(x &&& (-x)))), (0, .ref a), (1, .ref b), (4, .int (nI fr)), (5, .int (nI k))]) hx hb dd_PT_isLike_64 rfl hl (by decide) rfl (fun ls hl => ?_)
              refine lv_iload hx hb dd_PT_isLike_65 (lv_at hl 4 rfl) ?_
              refine lv_iconst (v := nI 1) hx hb dd_PT_isLike_67 (by decide +kernel) ?_
              refine hn_iadd hx hb dd_PT_isLike_68 ?_
              refine lv_istore (lv' := [(4, .int (nI (k + 1))), (2, .long (-(x &&& (-x)))), (0, .ref a), (1, .ref b), (5, .int (nI k))]) hx hb dd_PT_isLike_69 hl (by decide) rfl (fun ls hl => ?_)
              refine lv_iinc (v := nI (k + 1)) (lv' := [(5, .int (nI (k + 1))), (4, .int (nI (k + 1))), (2, .long (-(x &&& (-x)))), (0, .ref a), (1, .ref b)]) hx hb dd_PT_isLike_71 hl (k := 4) rfl (nI_1 k) (by decide) rfl (fun ls hl => ?_)
              refine lv_goto (tgt := 8) hx hb dd_PT_isLike_74 (by decide) ?_
              exact ih8 (k + 1) (k + 1) (-(x &&& (-x))) (dp_st (wd_sp 46 u) S (tx_sl t fr k)) (by omega) (Nat.le_refl _) (Or.inr rfl) (fun j h8 h9 => absurd h9 (by omega)) (hnew) (hfo) (by omega) _ _ _ hP hS (lv_sub hl [3, 4, 2, 1, 0] rfl)
  exact lp8 _ 0 0 1 (fun k => decide (k = 0)) (Nat.zero_le _) (Nat.le_refl _) (Or.inl (Nat.zero_le _)) (fun j h8 h9 => absurd h9 (Nat.not_lt_zero _)) (fun q hq => lb_one hq) (by rw [wd_from_0]; rfl) (Nat.lt_succ_self _) _ _ _ hP hS (lv_sub hl [3, 4, 2, 1, 0] rfl)
