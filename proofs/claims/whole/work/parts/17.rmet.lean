/-! a message's headers -/
def hd_H (D : va_G) (M : hm_M) (x : Nat) (h : List Nat × List Nat) : Prop := ∃ na va : Nat, M x = some (.inr (3, [.ref na, .ref va])) ∧ tx_S D M na h.1 ∧ tx_S D M va h.2
def mg_M (B : Nat) (D : va_G) (G : Nat → Nat) (M : hm_M) (g : Nat) (key : List Nat) (hs : List (List Nat × List Nat)) : Prop := ∃ (kk hh : Nat) (xs : List Nat), M g = some (.inr (4, [.ref kk, .ref hh])) ∧ tx_S D M kk key ∧ al_L B D G M 3 hh xs ∧ xs.length = hs.length ∧ ∀ j, j < hs.length → hd_H D M (xs.getD j 0) (hs.getD j ([], []))
def hd_met (hs : List (List Nat × List Nat)) (w : List Nat) : Bool := match hs.find? (fun h => decide (h.1 = pr_nm w)) with
  | none => false
  | some h => match pr_vl w with
    | [] => true
    | _ :: r => decide (h.2 = r)
def ru_met (hs : List (List Nat × List Nat)) (t : List Nat) : Bool := if t.take 3 = [97, 108, 108] then (wd_from 44 t 4).all (hd_met hs) else (wd_from 44 t 4).any (hd_met hs)
theorem fm_at {α : Type} {l : List α} {p : α → Bool} {d : α} : ∀ {j : Nat}, j < l.length → (∀ q, q < j → p (l.getD q d) = false) → p (l.getD j d) = true → l.find? p = some (l.getD j d) := by
  induction l with
  | nil => intro j h; exact absurd h (Nat.not_lt_zero _)
  | cons x l ih =>
    intro j hj hq hp
    cases j with
    | zero =>
      have hp' : p x = true := hp
      rw [List.find?_cons_of_pos hp']; rfl
    | succ j =>
      have h0 : p x = false := hq 0 (Nat.succ_pos _)
      rw [List.find?_cons_of_neg (by rw [h0]; exact Bool.false_ne_true)]
      exact ih (Nat.lt_of_succ_lt_succ hj) (fun q h => hq (q + 1) (Nat.succ_lt_succ h)) hp
theorem fm_no {α : Type} {l : List α} {p : α → Bool} {d : α} (h : ∀ q, q < l.length → p (l.getD q d) = false) : l.find? p = none := by
  rw [List.find?_eq_none]
  intro x hx
  obtain ⟨j, hj, e⟩ := List.getElem_of_mem hx
  have := h j hj
  rw [List.getD_eq_getElem?_getD, List.getElem?_eq_getElem hj, Option.getD_some, e] at this
  rw [this]; exact Bool.false_ne_true
theorem bz_inj {a b : Bool} (h : bz a = bz b) : a = b := by cases a <;> cases b <;> first | rfl | (exact absurd h (by decide))
theorem bz_ninj {a b : Bool} (h : ¬ bz a = bz b) : a = !b := by cases a <;> cases b <;> first | rfl | (exact absurd rfl h)

set_option maxHeartbeats 4000000 in
set_option maxRecDepth 100000 in
theorem kc_HT_isNameMet (l : Launch) (B : Nat) (D : va_G) (G : Nat → Nat) (M : hm_M) (a : Nat) (t : List Nat) (ht : tx_S D M a t) (i n : Nat) (hi : i ≤ n) (hn : n ≤ t.length) (g : Nat) (key : List Nat) (hs : List (List Nat × List Nat)) (hg : mg_M B D G M g key hs) : Met l yy_HT_isNameMet ws_HT_isNameMet ({ frames := 5, cells := 0, slots := 0, locals := 111 }) (hm_Pc B D G M [.ref a, .int (nI i), .int (nI n), .ref g]) (hm_Ni B D (fun r M1 => r = nI (bz (hd_met hs (tx_sl t i n))) ∧ M1 = M)) (0) (0) (hm_A B) := by
  refine Met.ofW (cc := cd_HT_isNameMet) (maxL := 7) (ret := ((some FieldType.boolean))) (by decide) rfl ?_
  intro p e s m args below meth c s₁ B0 hml hv
  obtain ⟨rfl, hE, hP⟩ := hv
  have hx := B0.exec
  have hb := B0.bytes
  have hr := B0.returns
  have hts : ∀ w ∈ tb_G, w.before _ s = true := fun w h => atoms_spec (ws := ws_HT_isNameMet) B0.pre w (List.mem_cons_of_mem _ h)
  have hown : s.vm.findClass "RouteDesk$HeaderText" = some m.cls := findClass_of_methodNamed B0.named
  have hlocks := B0.notSynchronized
  have hRf : (headSpec ws_HT_isNameMet { frames := 5, cells := 0, slots := 0, locals := 111 }).room.frames = 5 := rfl
  have hRl : (headSpec ws_HT_isNameMet { frames := 5, cells := 0, slots := 0, locals := 111 }).room.locals = 111 := rfl
  have hRc : (headSpec ws_HT_isNameMet { frames := 5, cells := 0, slots := 0, locals := 111 }).room.cells = 0 := rfl
  have hRs : (headSpec ws_HT_isNameMet { frames := 5, cells := 0, slots := 0, locals := 111 }).room.slots = 0 := rfl
  generalize (headSpec ws_HT_isNameMet { frames := 5, cells := 0, slots := 0, locals := 111 }).room = R at hRf hRl hRc hRs ⊢
  have hS : va_S (hm_A B) s.heap s.heap [] := va_S.rf
  have hl := lv_entry ([.ref a, .int (nI i), .int (nI n), .ref g]) (n := 7) (Nat.le_of_ble_eq_true rfl)
  rw [lg_entry_eq]
  generalize (lg_sl ([.ref a, .int (nI i), .int (nI n), .ref g]) ++ List.replicate (7 - (lg_sl ([.ref a, .int (nI i), .int (nI n), .ref g])).length) Slot.unset).toArray = ls at hl ⊢
  have hl : lv_has ls 7 [(0, .ref a), (1, .int (nI i)), (2, .int (nI n)), (3, .ref g)] := hl
  obtain ⟨v, f, h1, h2, h3, h4, h5⟩ := id ht
  obtain ⟨kk, hh, xs, m1, m2, m3, m4, m5⟩ := id hg
  obtain ⟨ld, ln, lf, lm, l1, l2, l3, l4, l5, l6, l7⟩ := id m3
  refine lv_aload_n hx hb dd_HT_isNameMet_0 rfl (lv_at hl 0 rfl) ?_
  refine lv_bipush (v := nI 61) hx hb dd_HT_isNameMet_1 (by decide +kernel) ?_
  refine lv_iload_n hx hb dd_HT_isNameMet_3 rfl (lv_at hl 1 rfl) ?_
  refine lv_iload_n hx hb dd_HT_isNameMet_4 rfl (lv_at hl 2 rfl) ?_
  refine hm_ci hS (hm_rS 4 (As := [.ref a, .int (nI 61), .int (nI i), .int (nI n)]) (rest := []) ⟨hx, hb, hml, hown, hts⟩ hE hS hP (kc_TX_find l B D G M a t ht 61 i n (by omega) hi hn) tw_615 tw_634 tw_614 tw_62 (by decide +kernel) rfl rfl ⟨by show 4 + 1 ≤ R.frames; omega, by show 8 + (5 + 11) + 85 ≤ R.locals; omega⟩ rfl hl.1 rfl (Nat.le_of_ble_eq_true rfl) dd_HT_isNameMet_5 ⟨by omega, by omega⟩) (fun r1 M2 H locs hw3 hP hS => ?_)
  refine W.widen (k := 0) (n := 0) (by omega) (by omega) ?_
  obtain ⟨k, rfl, k1, k2, k3, k4, eM2⟩ := hw3
  rw [eM2] at hP
  refine lv_istore (lv' := [(4, .int (nI k)), (0, .ref a), (1, .int (nI i)), (2, .int (nI n)), (3, .ref g)]) hx hb dd_HT_isNameMet_8 hl (by decide) rfl (fun ls hl => ?_)
  have hpr := pr_take k1 k2 hn k3 k4
  refine lv_iconst (v := nI 0) hx hb dd_HT_isNameMet_10 (by decide +kernel) ?_
  refine lv_istore (lv' := [(5, .int (nI 0)), (4, .int (nI k)), (0, .ref a), (1, .int (nI i)), (2, .int (nI n)), (3, .ref g)]) hx hb dd_HT_isNameMet_11 hl (by decide) rfl (fun ls hl => ?_)
  have lp13 : ∀ (n9 : Nat) (j : Nat), (j ≤ hs.length) → (∀ q, q < j → ¬ (hs.getD q ([], [])).1 = tx_sl t i k) → hs.length - j < n9 → ∀ (H : Heap) (locs : List Loc) (ls : Array Slot), hm_P D cl_W M H → va_S (hm_A B) s.heap H locs → lv_has ls 7 [(0, .ref a), (1, .int (nI i)), (2, .int (nI n)), (3, .ref g), (4, .int (nI k)), (5, .int (nI j))] → W p l e R s m ([.ref a, .int (nI i), .int (nI n), .ref g] : List Value).toArray below meth c H locs (0) (0) (MQ below (hm_Ni B D (fun r M1 => r = nI (bz (hd_met hs (tx_sl t i n))) ∧ M1 = M)) ([.ref a, .int (nI i), .int (nI n), .ref g] : List Value).toArray s (0) (0) (hm_A B)) (F0 m 13 ls []) := by
    intro n9
    induction n9 with
    | zero => intro j hj hj2 hm; exact absurd hm (Nat.not_lt_zero _)
    | succ n9 ih13 =>
      intro j hj hj2 hm H locs ls hP hS hl
      refine lv_iload hx hb dd_HT_isNameMet_13 (lv_at hl 5 rfl) ?_
      refine lv_aload_n hx hb dd_HT_isNameMet_15 rfl (lv_at hl 3 rfl) ?_
      refine hm_getN (ci := 4) (C := rn_MG) (T := ft_MG) (N := 2) hx hb hts fi_MG hown hE.K hP m1 rfl 1 (by decide) (va_Nw.use rfl (hE.nest 2 rfl)) (fun _ h9 => h9) rfl dd_HT_isNameMet_16 ?_
      refine hm_ci hS (hm_rV 0 (As := []) (rest := [.int (nI j)]) ⟨hx, hb, hml, hown, hts⟩ hE hS hP (kc_AL_size l B D G M 3 hh xs m3) rfl l1 tw_331 tw_939 tw_329 tw_330 tw_43 (by decide +kernel) rfl rfl ⟨by show 0 + 1 ≤ R.frames; omega, by show 8 + (1 + 11) + 0 ≤ R.locals; omega⟩ rfl hl.1 rfl (Nat.le_of_ble_eq_true rfl) dd_HT_isNameMet_19 ⟨by omega, by omega⟩) (fun r4 M5 H locs hw6 hP hS => ?_)
      refine W.widen (k := 0) (n := 0) (by omega) (by omega) ?_
      obtain ⟨rfl, eM5⟩ := hw6
      rw [eM5] at hP
      refine hn_icmp_ge (tgt := 107) hx hb (by omega) (by omega) dd_HT_isNameMet_22 (by decide) (fun c7 => ?_) (fun c7 => ?_)
      · have c0 := c7
        refine lv_iconst (v := nI 0) hx hb dd_HT_isNameMet_107 (by decide +kernel) ?_
        exact hm_Ei (v := nI 0) hx hb hr rfl hS hP (⟨bz_0 (by rw [hd_met, fm_no (d := ([], [])) (fun q h => decide_eq_false (fun e => hj2 q (by omega) (by rw [e, hpr.1])))]), rfl⟩) hlocks (by omega) (by omega) dd_HT_isNameMet_108
      · have c0 := c7
        refine lv_aload_n hx hb dd_HT_isNameMet_25 rfl (lv_at hl 3 rfl) ?_
        refine hm_getN (ci := 4) (C := rn_MG) (T := ft_MG) (N := 2) hx hb hts fi_MG hown hE.K hP m1 rfl 1 (by decide) (va_Nw.use rfl (hE.nest 2 rfl)) (fun _ h9 => h9) rfl dd_HT_isNameMet_26 ?_
        refine lv_iload hx hb dd_HT_isNameMet_29 (lv_at hl 5 rfl) ?_
        refine hm_cr hS (hm_rV 1 (As := [.int (nI j)]) (rest := []) ⟨hx, hb, hml, hown, hts⟩ hE hS hP (kc_AL_get l B D G M 3 hh xs m3 j (by omega)) rfl l1 tw_335 tw_940 tw_333 tw_334 tw_43 (by decide +kernel) rfl rfl ⟨by show 2 + 1 ≤ R.frames; omega, by show 8 + (2 + 11) + 43 ≤ R.locals; omega⟩ rfl hl.1 rfl (Nat.le_of_ble_eq_true rfl) dd_HT_isNameMet_31 ⟨by omega, by omega⟩) (fun r8 M9 H locs hw10 hP hS => ?_)
        refine W.widen (k := 0) (n := 0) (by omega) (by omega) ?_
        obtain ⟨rfl, eM9⟩ := hw10
        rw [eM9] at hP
        obtain ⟨na, va, x1, x2, x3⟩ := m5 j (by omega)
        obtain ⟨nv, nf, n1, n2, n3, n4, n5⟩ := id x2
        obtain ⟨vv, vf, v1, v2, v3, v4, v5⟩ := id x3
        refine va_castE hx hb hown (hts _ tw_941) (hm_recv hE.K hP rfl x1) dd_HT_isNameMet_34 ?_
        refine lv_astore (lv' := [(6, .ref (xs.getD j 0)), (0, .ref a), (1, .int (nI i)), (2, .int (nI n)), (3, .ref g), (4, .int (nI k)), (5, .int (nI j))]) hx hb dd_HT_isNameMet_37 hl (by decide) rfl (fun ls hl => ?_)
        refine lv_aload_n hx hb dd_HT_isNameMet_39 rfl (lv_at hl 1 rfl) ?_
        refine lv_iload_n hx hb dd_HT_isNameMet_40 rfl (lv_at hl 2 rfl) ?_
        refine lv_iload hx hb dd_HT_isNameMet_41 (lv_at hl 5 rfl) ?_
        refine lv_aload hx hb dd_HT_isNameMet_43 (lv_at hl 0 rfl) ?_
        refine hm_getN (ci := 3) (C := rn_HD) (T := ft_HD) (N := 2) hx hb hts fi_HD hown hE.K hP x1 rfl 0 (by decide) (va_Nw.use rfl (hE.nest 12 rfl)) (fun _ h9 => h9) rfl dd_HT_isNameMet_45 ?_
        refine lv_iconst (v := nI 0) hx hb dd_HT_isNameMet_48 (by decide +kernel) ?_
        refine lv_aload hx hb dd_HT_isNameMet_49 (lv_at hl 0 rfl) ?_
        refine hm_getN (ci := 3) (C := rn_HD) (T := ft_HD) (N := 2) hx hb hts fi_HD hown hE.K hP x1 rfl 0 (by decide) (va_Nw.use rfl (hE.nest 12 rfl)) (fun _ h9 => h9) rfl dd_HT_isNameMet_51 ?_
        refine hm_ci hS (hm_rV 0 (As := []) (rest := [.int (nI 0), .ref na, .int (nI k), .int (nI i), .ref a]) ⟨hx, hb, hml, hown, hts⟩ hE hS hP (kc_ST_length l B D G M na (hs.getD j ([], [])).1 x2) rfl n1 tw_490 tw_862 tw_488 tw_489 tw_39 (by decide +kernel) rfl rfl ⟨by show 1 + 1 ≤ R.frames; omega, by show 8 + (1 + 11) + 20 ≤ R.locals; omega⟩ rfl hl.1 rfl (Nat.le_of_ble_eq_true rfl) dd_HT_isNameMet_54 ⟨by omega, by omega⟩) (fun r11 M12 H locs hw13 hP hS => ?_)
        refine W.widen (k := 0) (n := 0) (by omega) (by omega) ?_
        obtain ⟨rfl, eM12⟩ := hw13
        rw [eM12] at hP
        refine hm_ci hS (hm_rS 6 (As := [.ref a, .int (nI i), .int (nI k), .ref na, .int (nI 0), .int (nI ((hs.getD j ([], [])).1.length))]) (rest := []) ⟨hx, hb, hml, hown, hts⟩ hE hS hP (kc_TX_isSame l B D G M a t ht i k k1 (by omega) na (hs.getD j ([], [])).1 x2 0 (hs.getD j ([], [])).1.length (Nat.zero_le _) (Nat.le_refl _)) tw_859 tw_942 tw_858 tw_62 (by decide +kernel) rfl rfl ⟨by show 4 + 1 ≤ R.frames; omega, by show 8 + (7 + 11) + 85 ≤ R.locals; omega⟩ rfl hl.1 rfl (Nat.le_of_ble_eq_true rfl) dd_HT_isNameMet_57 ⟨by omega, by omega⟩) (fun r14 M15 H locs hw16 hP hS => ?_)
        refine W.widen (k := 0) (n := 0) (by omega) (by omega) ?_
        obtain ⟨rfl, eM15⟩ := hw16
        rw [eM15] at hP
        refine hn_if_eq (tgt := 101) hx hb (bz_b _) dd_HT_isNameMet_60 (by decide) (fun c17 => ?_) (fun c17 => ?_)
        · have c1 := of_decide_eq_false (bz_f c17)
          rw [tx_sl_all] at c1
          refine lv_iinc (v := nI (j + 1)) (lv' := [(5, .int (nI (j + 1))), (6, .ref (xs.getD j 0)), (0, .ref a), (1, .int (nI i)), (2, .int (nI n)), (3, .ref g), (4, .int (nI k))]) hx hb dd_HT_isNameMet_101 hl (k := 6) rfl (nI_1 j) (by decide) rfl (fun ls hl => ?_)
          refine lv_goto (tgt := 13) hx hb dd_HT_isNameMet_104 (by decide) ?_
          exact ih13 (j + 1) (by omega) (fun q h => by
              by_cases e : q = j
              · subst e; exact fun z => c1 z.symm
              · exact hj2 q (by omega)) (by omega) _ _ _ hP hS (lv_sub hl [2, 3, 4, 5, 6, 0] rfl)
        · have c1 := of_decide_eq_true (bz_t c17)
          rw [tx_sl_all] at c1
          have hfd : hs.find? (fun h => decide (h.1 = pr_nm (tx_sl t i n))) = some (hs.getD j ([], [])) := fm_at (by omega) (fun q h => decide_eq_false (fun e => hj2 q h (by rw [e, hpr.1]))) (decide_eq_true (by rw [hpr.1, c1]))
          refine lv_iload hx hb dd_HT_isNameMet_63 (lv_at hl 5 rfl) ?_
          refine lv_iload_n hx hb dd_HT_isNameMet_65 rfl (lv_at hl 3 rfl) ?_
          refine hn_icmp_eq (tgt := 95) hx hb (by omega) (by omega) dd_HT_isNameMet_66 (by decide) (fun c18 => ?_) (fun c18 => ?_)
          · have c2 := c18
            refine lv_iconst (v := nI 1) hx hb dd_HT_isNameMet_95 (by decide +kernel) ?_
            refine lv_goto (tgt := 100) hx hb dd_HT_isNameMet_96 (by decide) ?_
            exact hm_Ei (v := nI 1) hx hb hr rfl hS hP (⟨bz_1 (by rw [hd_met, hfd, hpr.2, List.length_eq_zero_iff.mp (show (tx_sl t k n).length = 0 by rw [tx_sl_len hn]; omega)]), rfl⟩) hlocks (by omega) (by omega) dd_HT_isNameMet_100
          · have c2 := c18
            refine lv_aload_n hx hb dd_HT_isNameMet_69 rfl (lv_at hl 1 rfl) ?_
            refine lv_iload hx hb dd_HT_isNameMet_70 (lv_at hl 5 rfl) ?_
            refine lv_iconst (v := nI 1) hx hb dd_HT_isNameMet_72 (by decide +kernel) ?_
            refine hn_iadd hx hb dd_HT_isNameMet_73 ?_
            refine lv_iload_n hx hb dd_HT_isNameMet_74 rfl (lv_at hl 3 rfl) ?_
            refine lv_aload hx hb dd_HT_isNameMet_75 (lv_at hl 0 rfl) ?_
            refine hm_getN (ci := 3) (C := rn_HD) (T := ft_HD) (N := 2) hx hb hts fi_HD hown hE.K hP x1 rfl 1 (by decide) (va_Nw.use rfl (hE.nest 14 rfl)) (fun _ h9 => h9) rfl dd_HT_isNameMet_77 ?_
            refine lv_iconst (v := nI 0) hx hb dd_HT_isNameMet_80 (by decide +kernel) ?_
            refine lv_aload hx hb dd_HT_isNameMet_81 (lv_at hl 0 rfl) ?_
            refine hm_getN (ci := 3) (C := rn_HD) (T := ft_HD) (N := 2) hx hb hts fi_HD hown hE.K hP x1 rfl 1 (by decide) (va_Nw.use rfl (hE.nest 14 rfl)) (fun _ h9 => h9) rfl dd_HT_isNameMet_83 ?_
            refine hm_ci hS (hm_rV 0 (As := []) (rest := [.int (nI 0), .ref va, .int (nI n), .int (nI (k + 1)), .ref a]) ⟨hx, hb, hml, hown, hts⟩ hE hS hP (kc_ST_length l B D G M va (hs.getD j ([], [])).2 x3) rfl v1 tw_490 tw_862 tw_488 tw_489 tw_39 (by decide +kernel) rfl rfl ⟨by show 1 + 1 ≤ R.frames; omega, by show 8 + (1 + 11) + 20 ≤ R.locals; omega⟩ rfl hl.1 rfl (Nat.le_of_ble_eq_true rfl) dd_HT_isNameMet_86 ⟨by omega, by omega⟩) (fun r19 M20 H locs hw21 hP hS => ?_)
            refine W.widen (k := 0) (n := 0) (by omega) (by omega) ?_
            obtain ⟨rfl, eM20⟩ := hw21
            rw [eM20] at hP
            refine hm_ci hS (hm_rS 6 (As := [.ref a, .int (nI (k + 1)), .int (nI n), .ref va, .int (nI 0), .int (nI ((hs.getD j ([], [])).2.length))]) (rest := []) ⟨hx, hb, hml, hown, hts⟩ hE hS hP (kc_TX_isSame l B D G M a t ht (k + 1) n (by omega) hn va (hs.getD j ([], [])).2 x3 0 (hs.getD j ([], [])).2.length (Nat.zero_le _) (Nat.le_refl _)) tw_859 tw_942 tw_858 tw_62 (by decide +kernel) rfl rfl ⟨by show 4 + 1 ≤ R.frames; omega, by show 8 + (7 + 11) + 85 ≤ R.locals; omega⟩ rfl hl.1 rfl (Nat.le_of_ble_eq_true rfl) dd_HT_isNameMet_89 ⟨by omega, by omega⟩) (fun r22 M23 H locs hw24 hP hS => ?_)
            refine W.widen (k := 0) (n := 0) (by omega) (by omega) ?_
            obtain ⟨rfl, eM23⟩ := hw24
            rw [eM23] at hP
            refine hn_if_eq (tgt := 99) hx hb (bz_b _) dd_HT_isNameMet_92 (by decide) (fun c25 => ?_) (fun c25 => ?_)
            · have c3 := of_decide_eq_false (bz_f c25)
              rw [tx_sl_all] at c3
              refine lv_iconst (v := nI 0) hx hb dd_HT_isNameMet_99 (by decide +kernel) ?_
              exact hm_Ei (v := nI 0) hx hb hr rfl hS hP (⟨bz_0 (by rw [hd_met, hfd, hpr.2, tx_sl_hd (by omega) hn]; exact decide_eq_false (fun e => c3 e.symm)), rfl⟩) hlocks (by omega) (by omega) dd_HT_isNameMet_100
            · have c3 := of_decide_eq_true (bz_t c25)
              rw [tx_sl_all] at c3
              refine lv_iconst (v := nI 1) hx hb dd_HT_isNameMet_95 (by decide +kernel) ?_
              refine lv_goto (tgt := 100) hx hb dd_HT_isNameMet_96 (by decide) ?_
              exact hm_Ei (v := nI 1) hx hb hr rfl hS hP (⟨bz_1 (by rw [hd_met, hfd, hpr.2, tx_sl_hd (by omega) hn]; exact decide_eq_true c3.symm), rfl⟩) hlocks (by omega) (by omega) dd_HT_isNameMet_100
  exact lp13 _ 0 (Nat.zero_le _) (fun q h => absurd h (Nat.not_lt_zero _)) (Nat.lt_succ_self _) _ _ _ hP hS (lv_sub hl [2, 3, 4, 5, 1, 0] rfl)
set_option maxHeartbeats 4000000 in
set_option maxRecDepth 100000 in
theorem kc_HT_isRuleMet (l : Launch) (B : Nat) (D : va_G) (G : Nat → Nat) (M : hm_M) (a : Nat) (t : List Nat) (ht : tx_S D M a t) (hc1 : tx_S D M (G 1) [97, 108, 108]) (g : Nat) (key : List Nat) (hs : List (List Nat × List Nat)) (hg : mg_M B D G M g key hs) : Met l yy_HT_isRuleMet ws_HT_isRuleMet ({ frames := 6, cells := 0, slots := 0, locals := 137 }) (hm_Pc B D G M [.ref a, .ref g]) (hm_Ni B D (fun r M1 => r = nI (bz (ru_met hs t)) ∧ M1 = M)) (0) (0) (hm_A B) := by
  refine Met.ofW (cc := cd_HT_isRuleMet) (maxL := 5) (ret := ((some FieldType.boolean))) (by decide) rfl ?_
  intro p e s m args below meth c s₁ B0 hml hv
  obtain ⟨rfl, hE, hP⟩ := hv
  have hx := B0.exec
  have hb := B0.bytes
  have hr := B0.returns
  have hts : ∀ w ∈ tb_G, w.before _ s = true := fun w h => atoms_spec (ws := ws_HT_isRuleMet) B0.pre w (List.mem_cons_of_mem _ h)
  have hown : s.vm.findClass "RouteDesk$HeaderText" = some m.cls := findClass_of_methodNamed B0.named
  have hlocks := B0.notSynchronized
  have hRf : (headSpec ws_HT_isRuleMet { frames := 6, cells := 0, slots := 0, locals := 137 }).room.frames = 6 := rfl
  have hRl : (headSpec ws_HT_isRuleMet { frames := 6, cells := 0, slots := 0, locals := 137 }).room.locals = 137 := rfl
  have hRc : (headSpec ws_HT_isRuleMet { frames := 6, cells := 0, slots := 0, locals := 137 }).room.cells = 0 := rfl
  have hRs : (headSpec ws_HT_isRuleMet { frames := 6, cells := 0, slots := 0, locals := 137 }).room.slots = 0 := rfl
  generalize (headSpec ws_HT_isRuleMet { frames := 6, cells := 0, slots := 0, locals := 137 }).room = R at hRf hRl hRc hRs ⊢
  have hS : va_S (hm_A B) s.heap s.heap [] := va_S.rf
  have hl := lv_entry ([.ref a, .ref g]) (n := 5) (Nat.le_of_ble_eq_true rfl)
  rw [lg_entry_eq]
  generalize (lg_sl ([.ref a, .ref g]) ++ List.replicate (5 - (lg_sl ([.ref a, .ref g])).length) Slot.unset).toArray = ls at hl ⊢
  have hl : lv_has ls 5 [(0, .ref a), (1, .ref g)] := hl
  obtain ⟨v, f, h1, h2, h3, h4, h5⟩ := id ht
  obtain ⟨kk, hh, xs, m1, m2, m3, m4, m5⟩ := id hg
  obtain ⟨ld, ln, lf, lm, l1, l2, l3, l4, l5, l6, l7⟩ := id m3
  refine lv_aload_n hx hb dd_HT_isRuleMet_0 rfl (lv_at hl 0 rfl) ?_
  refine va_ldcS (own := "RouteDesk$HeaderText") (tx := "all") (index := 22) (q := G 1) hx hb hown (hE.str (q := ("RouteDesk$HeaderText", 22, "all", 1)) 0 rfl) dd_HT_isRuleMet_1 ?_
  refine hm_ci hS (hm_rS 2 (As := [.ref a, .ref (G 1)]) (rest := []) ⟨hx, hb, hml, hown, hts⟩ hE hS hP (kc_TX_beginsWith l B D G M a t ht (G 1) [97, 108, 108] hc1) tw_856 tw_854 tw_855 tw_62 (by decide +kernel) rfl rfl ⟨by show 5 + 1 ≤ R.frames; omega, by show 8 + (2 + 11) + 111 ≤ R.locals; omega⟩ rfl hl.1 rfl (Nat.le_of_ble_eq_true rfl) dd_HT_isRuleMet_3 ⟨by omega, by omega⟩) (fun r1 M2 H locs hw3 hP hS => ?_)
  refine W.widen (k := 0) (n := 0) (by omega) (by omega) ?_
  obtain ⟨rfl, eM2⟩ := hw3
  rw [eM2] at hP
  obtain ⟨bb, ebb⟩ : ∃ z, z = decide (t.take ([97, 108, 108] : List Nat).length = [97, 108, 108]) := ⟨_, rfl⟩
  rw [← ebb]
  refine lv_istore_n (lv' := [(2, .int (nI (bz bb))), (0, .ref a), (1, .ref g)]) hx hb dd_HT_isRuleMet_6 rfl hl (by decide) rfl (fun ls hl => ?_)
  have hres : ru_met hs t = (if bb = true then (wd_from 44 t 4).all (hd_met hs) else (wd_from 44 t 4).any (hd_met hs)) := by
    rw [ru_met, ebb]; simp only [List.length_cons, List.length_nil, decide_eq_true_eq]
  refine lv_iconst (v := nI 4) hx hb dd_HT_isRuleMet_7 (by decide +kernel) ?_
  refine lv_istore_n (lv' := [(3, .int (nI 4)), (2, .int (nI (bz bb))), (0, .ref a), (1, .ref g)]) hx hb dd_HT_isRuleMet_8 rfl hl (by decide) rfl (fun ls hl => ?_)
  refine lv_iload_n hx hb dd_HT_isRuleMet_9 rfl (lv_at hl 0 rfl) ?_
  refine lv_istore (lv' := [(4, .int (nI 4)), (3, .int (nI 4)), (2, .int (nI (bz bb))), (0, .ref a), (1, .ref g)]) hx hb dd_HT_isRuleMet_10 hl (by decide) rfl (fun ls hl => ?_)
  have lp12 : ∀ (n9 : Nat) (k : Nat) (fr : Nat), (4 ≤ k ∧ k ≤ t.length + 4) → (fr ≤ k) → (k ≤ t.length ∨ fr = k) → (∀ j, fr ≤ j → j < k → ¬ t.getD j 0 = 44) → ((if bb = true then (wd_from 44 t fr).all (hd_met hs) else (wd_from 44 t fr).any (hd_met hs)) = (if bb = true then (wd_from 44 t 4).all (hd_met hs) else (wd_from 44 t 4).any (hd_met hs))) → t.length + 4 - k < n9 → ∀ (H : Heap) (locs : List Loc) (ls : Array Slot), hm_P D cl_W M H → va_S (hm_A B) s.heap H locs → lv_has ls 5 [(0, .ref a), (1, .ref g), (2, .int (nI (bz bb))), (3, .int (nI fr)), (4, .int (nI k))] → W p l e R s m ([.ref a, .ref g] : List Value).toArray below meth c H locs (0) (0) (MQ below (hm_Ni B D (fun r M1 => r = nI (bz (ru_met hs t)) ∧ M1 = M)) ([.ref a, .ref g] : List Value).toArray s (0) (0) (hm_A B)) (F0 m 12 ls []) := by
    intro n9
    induction n9 with
    | zero => intro k fr hk hfk hlast hno hq hm; exact absurd hm (Nat.not_lt_zero _)
    | succ n9 ih12 =>
      intro k fr hk hfk hlast hno hq hm H locs ls hP hS hl
      refine lv_iload hx hb dd_HT_isRuleMet_12 (lv_at hl 4 rfl) ?_
      refine lv_aload_n hx hb dd_HT_isRuleMet_14 rfl (lv_at hl 0 rfl) ?_
      refine hm_ci hS (hm_rV 0 (As := []) (rest := [.int (nI k)]) ⟨hx, hb, hml, hown, hts⟩ hE hS hP (kc_ST_length l B D G M a t ht) rfl h1 tw_490 tw_862 tw_488 tw_489 tw_39 (by decide +kernel) rfl rfl ⟨by show 1 + 1 ≤ R.frames; omega, by show 8 + (1 + 11) + 20 ≤ R.locals; omega⟩ rfl hl.1 rfl (Nat.le_of_ble_eq_true rfl) dd_HT_isRuleMet_15 ⟨by omega, by omega⟩) (fun r4 M5 H locs hw6 hP hS => ?_)
      refine W.widen (k := 0) (n := 0) (by omega) (by omega) ?_
      obtain ⟨rfl, eM5⟩ := hw6
      rw [eM5] at hP
      refine hn_icmp_gt (tgt := 65) hx hb (by omega) (by omega) dd_HT_isRuleMet_18 (by decide) (fun c7 => ?_) (fun c7 => ?_)
      · have c3 := c7
        refine lv_iload_n hx hb dd_HT_isRuleMet_65 rfl (lv_at hl 2 rfl) ?_
        exact hm_Ei (v := nI (bz bb)) hx hb hr (bz_n _) hS hP (⟨by rw [wd_end 44 t (by omega)] at hq; rw [hres, ← hq]; cases bb <;> rfl, rfl⟩) hlocks (by omega) (by omega) dd_HT_isRuleMet_66
      · have c3 := c7
        refine lv_aload_n hx hb dd_HT_isRuleMet_21 rfl (lv_at hl 0 rfl) ?_
        refine lv_iload hx hb dd_HT_isRuleMet_22 (lv_at hl 4 rfl) ?_
        refine lv_bipush (v := nI 44) hx hb dd_HT_isRuleMet_24 (by decide +kernel) ?_
        refine hm_ci hS (hm_rS 3 (As := [.ref a, .int (nI k), .int (nI 44)]) (rest := []) ⟨hx, hb, hml, hown, hts⟩ hE hS hP (kc_TX_isPartEnd l B D G M a t ht k (by omega) 44 (by omega)) tw_844 tw_861 tw_843 tw_62 (by decide +kernel) rfl rfl ⟨by show 4 + 1 ≤ R.frames; omega, by show 8 + (3 + 11) + 85 ≤ R.locals; omega⟩ rfl hl.1 rfl (Nat.le_of_ble_eq_true rfl) dd_HT_isRuleMet_26 ⟨by omega, by omega⟩) (fun r8 M9 H locs hw10 hP hS => ?_)
        refine W.widen (k := 0) (n := 0) (by omega) (by omega) ?_
        obtain ⟨rfl, eM9⟩ := hw10
        rw [eM9] at hP
        refine hn_if_eq (tgt := 59) hx hb (bz_b _) dd_HT_isRuleMet_29 (by decide) (fun c11 => ?_) (fun c11 => ?_)
        · have c4 := of_decide_eq_false (bz_f c11)
          refine lv_iinc (v := nI (k + 1)) (lv' := [(4, .int (nI (k + 1))), (0, .ref a), (1, .ref g), (2, .int (nI (bz bb))), (3, .int (nI fr))]) hx hb dd_HT_isRuleMet_59 hl (k := 4) rfl (nI_1 k) (by decide) rfl (fun ls hl => ?_)
          refine lv_goto (tgt := 12) hx hb dd_HT_isRuleMet_62 (by decide) ?_
          exact ih12 (k + 1) fr (by omega) (by omega) (by omega) (fun j h8 h9 => by
              by_cases q : j = k
              · subst q; exact fun z => c4 (Or.inr z)
              · exact hno j h8 (by omega)) (hq) (by omega) _ _ _ hP hS (lv_sub hl [1, 2, 3, 4, 0] rfl)
        · have c4 := of_decide_eq_true (bz_t c11)
          have hst := wd_step hfk (by omega) hno (c4.elim (fun z => Or.inl (by omega)) Or.inr)
          rw [hst, List.all_cons, List.any_cons] at hq
          refine lv_aload_n hx hb dd_HT_isRuleMet_32 rfl (lv_at hl 0 rfl) ?_
          refine lv_iload_n hx hb dd_HT_isRuleMet_33 rfl (lv_at hl 3 rfl) ?_
          refine lv_iload hx hb dd_HT_isRuleMet_34 (lv_at hl 4 rfl) ?_
          refine lv_aload_n hx hb dd_HT_isRuleMet_36 rfl (lv_at hl 1 rfl) ?_
          refine hm_ci hS (hm_rS 4 (As := [.ref a, .int (nI fr), .int (nI k), .ref g]) (rest := []) ⟨hx, hb, hml, hown, hts⟩ hE hS hP (kc_HT_isNameMet l B D G M a t ht fr k hfk (by omega) g key hs hg) tw_938 tw_936 tw_937 tw_63 (by decide +kernel) rfl rfl ⟨by show 5 + 1 ≤ R.frames; omega, by show 8 + (7 + 11) + 111 ≤ R.locals; omega⟩ rfl hl.1 rfl (Nat.le_of_ble_eq_true rfl) dd_HT_isRuleMet_37 ⟨by omega, by omega⟩) (fun r12 M13 H locs hw14 hP hS => ?_)
          refine W.widen (k := 0) (n := 0) (by omega) (by omega) ?_
          obtain ⟨rfl, eM13⟩ := hw14
          rw [eM13] at hP
          refine lv_iload_n hx hb dd_HT_isRuleMet_40 rfl (lv_at hl 2 rfl) ?_
          refine hn_icmp_eq (tgt := 54) hx hb (bz_b _) (bz_b _) dd_HT_isRuleMet_41 (by decide) (fun c15 => ?_) (fun c15 => ?_)
          · have c5 := bz_inj c15
            rw [c5] at hq
            refine lv_iload hx hb dd_HT_isRuleMet_54 (lv_at hl 4 rfl) ?_
            refine lv_iconst (v := nI 1) hx hb dd_HT_isRuleMet_56 (by decide +kernel) ?_
            refine hn_iadd hx hb dd_HT_isRuleMet_57 ?_
            refine lv_istore_n (lv' := [(3, .int (nI (k + 1))), (0, .ref a), (1, .ref g), (2, .int (nI (bz bb))), (4, .int (nI k))]) hx hb dd_HT_isRuleMet_58 rfl hl (by decide) rfl (fun ls hl => ?_)
            refine lv_iinc (v := nI (k + 1)) (lv' := [(4, .int (nI (k + 1))), (3, .int (nI (k + 1))), (0, .ref a), (1, .ref g), (2, .int (nI (bz bb)))]) hx hb dd_HT_isRuleMet_59 hl (k := 4) rfl (nI_1 k) (by decide) rfl (fun ls hl => ?_)
            refine lv_goto (tgt := 12) hx hb dd_HT_isRuleMet_62 (by decide) ?_
            exact ih12 (k + 1) (k + 1) (by omega) (Nat.le_refl _) (Or.inr rfl) (fun j h8 h9 => absurd h9 (by omega)) (by rw [← hq]; cases bb <;> simp) (by omega) _ _ _ hP hS (lv_sub hl [2, 3, 4, 1, 0] rfl)
          · have c5 := bz_ninj c15
            rw [c5] at hq
            refine lv_iload_n hx hb dd_HT_isRuleMet_44 rfl (lv_at hl 2 rfl) ?_
            refine hn_if_ne (tgt := 52) hx hb (bz_b _) dd_HT_isRuleMet_45 (by decide) (fun c16 => ?_) (fun c16 => ?_)
            · have c6 := bz_t c16
              rw [c6] at hq
              refine lv_iconst (v := nI 0) hx hb dd_HT_isRuleMet_52 (by decide +kernel) ?_
              exact hm_Ei (v := nI 0) hx hb hr rfl hS hP (⟨bz_0 (by rw [hres, c6, ← hq]; rfl), rfl⟩) hlocks (by omega) (by omega) dd_HT_isRuleMet_53
            · have c6 := bz_f c16
              rw [c6] at hq
              refine lv_iconst (v := nI 1) hx hb dd_HT_isRuleMet_48 (by decide +kernel) ?_
              refine lv_goto (tgt := 53) hx hb dd_HT_isRuleMet_49 (by decide) ?_
              exact hm_Ei (v := nI 1) hx hb hr rfl hS hP (⟨bz_1 (by rw [hres, c6, ← hq]; rfl), rfl⟩) hlocks (by omega) (by omega) dd_HT_isRuleMet_53
  exact lp12 _ 4 4 (by omega) (Nat.le_refl _) (Or.inr rfl) (fun j h8 h9 => absurd h9 (by omega)) (rfl) (Nat.lt_succ_self _) _ _ _ hP hS (lv_sub hl [3, 4, 2, 1, 0] rfl)
