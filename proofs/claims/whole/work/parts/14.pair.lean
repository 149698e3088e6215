/-! pairs, rules, patterns -/
def ch_wild (c : Nat) : Bool := c == 42 || c == 35
def pt_ok (w : List Nat) : Bool := !(decide (1 < w.length) && w.any ch_wild)
def ru_hd (t : List Nat) : Bool := decide (t.take 3 = [97, 108, 108]) || decide (t.take 3 = [97, 110, 121])
def ru_go : Nat → List (List Nat) → Bool
  | _, [] => true
  | q, w :: ws => decide (q < 4) && (pr_ok w false && ru_go (q + 1) ws)
def ru_ok (t : List Nat) : Bool := ru_hd t && (decide (t.length ≤ 3 ∨ t.getD 3 0 = 44) && ru_go 0 (wd_from 44 t 4))
theorem fd_any {t : List Nat} {i k n ch : Nat} (hn : n ≤ t.length) (h1 : i ≤ k) (h2 : k ≤ n) (h3 : ∀ j, i ≤ j → j < k → ¬ t.getD j 0 = ch) (h4 : k < n → t.getD k 0 = ch) : decide (k < n) = (tx_sl t i n).any (fun c => c == ch) := by
  by_cases h : k < n
  · rw [decide_eq_true h]
    symm
    rw [List.any_eq_true]
    refine ⟨t.getD k 0, ?_, by rw [h4 h]; exact beq_self_eq_true _⟩
    have hl := tx_sl_len (a := i) hn
    have e := tx_sl_get (a := i) (j := k - i) hn (by omega)
    rw [show i + (k - i) = k by omega] at e
    rw [← e, List.getD_eq_getElem?_getD, List.getElem?_eq_getElem (by omega)]
    exact List.getElem_mem _
  · rw [decide_eq_false h]
    symm
    rw [List.any_eq_false]
    intro c hc
    obtain ⟨j, q1, q2, q3⟩ := tx_sl_mem hn hc
    have := h3 j q1 (by omega)
    rw [q3] at this
    simpa using this
theorem lc_eq {x y : Int64} (h : (lg_cmp x y).toInt = 0) : x = y := by
  unfold lg_cmp at h
  split at h
  · exact absurd h (by decide)
  · split at h
    · assumption
    · exact absurd h (by decide)
theorem lc_ne {x y : Int64} (h : ¬ (lg_cmp x y).toInt = 0) : ¬ x = y := fun q => h (by
  subst q
  unfold lg_cmp
  rw [if_neg (Int64.lt_irrefl), if_pos rfl]
  rfl)
theorem wd_len_c (sep c : Nat) (t : List Nat) : (wd_sp sep (c :: t)).length = (wd_sp sep t).length + (if c = sep then 1 else 0) := by
  rw [wd_sp]
  split
  · simp
  · split
    · rename_i h; exact absurd h (wd_sp_ne sep t)
    · rename_i h; rw [h]; simp
theorem wd_len (sep : Nat) (t : List Nat) : (wd_sp sep t).length ≤ t.length + 1 := by
  induction t with
  | nil => simp [wd_sp]
  | cons c t ih => rw [wd_len_c]; simp only [List.length_cons]; split <;> omega

set_option maxHeartbeats 4000000 in
set_option maxRecDepth 100000 in
theorem kc_HT_isNameOrPair (l : Launch) (B : Nat) (D : va_G) (G : Nat → Nat) (M : hm_M) (a : Nat) (t : List Nat) (ht : tx_S D M a t) (i n : Nat) (hi : i ≤ n) (hn : n ≤ t.length) : Met l yy_HT_isNameOrPair ws_HT_isNameOrPair ({ frames := 5, cells := 0, slots := 0, locals := 109 }) (hm_Pc B D G M [.ref a, .int (nI i), .int (nI n)]) (hm_Ni B D (fun r M1 => r = nI (bz (pr_ok (tx_sl t i n) false)) ∧ M1 = M)) (0) (0) (hm_A B) := by
  refine Met.ofW (cc := cd_HT_isNameOrPair) (maxL := 4) (ret := ((some FieldType.boolean))) (by decide) rfl ?_
  intro p e s m args below meth c s₁ B0 hml hv
  obtain ⟨rfl, hE, hP⟩ := hv
  have hx := B0.exec
  have hb := B0.bytes
  have hr := B0.returns
  have hts : ∀ w ∈ tb_G, w.before _ s = true := fun w h => atoms_spec (ws := ws_HT_isNameOrPair) B0.pre w (List.mem_cons_of_mem _ h)
  have hown : s.vm.findClass "RouteDesk$HeaderText" = some m.cls := findClass_of_methodNamed B0.named
  have hlocks := B0.notSynchronized
  have hRf : (headSpec ws_HT_isNameOrPair { frames := 5, cells := 0, slots := 0, locals := 109 }).room.frames = 5 := rfl
  have hRl : (headSpec ws_HT_isNameOrPair { frames := 5, cells := 0, slots := 0, locals := 109 }).room.locals = 109 := rfl
  have hRc : (headSpec ws_HT_isNameOrPair { frames := 5, cells := 0, slots := 0, locals := 109 }).room.cells = 0 := rfl
  have hRs : (headSpec ws_HT_isNameOrPair { frames := 5, cells := 0, slots := 0, locals := 109 }).room.slots = 0 := rfl
  generalize (headSpec ws_HT_isNameOrPair { frames := 5, cells := 0, slots := 0, locals := 109 }).room = R at hRf hRl hRc hRs ⊢
  have hS : va_S (hm_A B) s.heap s.heap [] := va_S.rf
  have hl := lv_entry ([.ref a, .int (nI i), .int (nI n)]) (n := 4) (Nat.le_of_ble_eq_true rfl)
  rw [lg_entry_eq]
  generalize (lg_sl ([.ref a, .int (nI i), .int (nI n)]) ++ List.replicate (4 - (lg_sl ([.ref a, .int (nI i), .int (nI n)])).length) Slot.unset).toArray = ls at hl ⊢
  have hl : lv_has ls 4 [(0, .ref a), (1, .int (nI i)), (2, .int (nI n))] := hl
  obtain ⟨v, f, h1, h2, h3, h4, h5⟩ := id ht
  refine lv_aload_n hx hb dd_HT_isNameOrPair_0 rfl (lv_at hl 0 rfl) ?_
  refine lv_bipush (v := nI 61) hx hb dd_HT_isNameOrPair_1 (by decide +kernel) ?_
  refine lv_iload_n hx hb dd_HT_isNameOrPair_3 rfl (lv_at hl 1 rfl) ?_
  refine lv_iload_n hx hb dd_HT_isNameOrPair_4 rfl (lv_at hl 2 rfl) ?_
  refine hm_ci hS (hm_rS 4 (As := [.ref a, .int (nI 61), .int (nI i), .int (nI n)]) (rest := []) ⟨hx, hb, hml, hown, hts⟩ hE hS hP (kc_TX_find l B D G M a t ht 61 i n (by omega) hi hn) tw_615 tw_634 tw_614 tw_62 (by decide +kernel) rfl rfl ⟨by show 4 + 1 ≤ R.frames; omega, by show 8 + (5 + 11) + 85 ≤ R.locals; omega⟩ rfl hl.1 rfl (Nat.le_of_ble_eq_true rfl) dd_HT_isNameOrPair_5 ⟨by omega, by omega⟩) (fun r1 M2 H locs hw3 hP hS => ?_)
  refine W.widen (k := 0) (n := 0) (by omega) (by omega) ?_
  obtain ⟨k, rfl, k1, k2, k3, k4, eM2⟩ := hw3
  rw [eM2] at hP
  refine lv_istore_n (lv' := [(3, .int (nI k)), (0, .ref a), (1, .int (nI i)), (2, .int (nI n))]) hx hb dd_HT_isNameOrPair_8 rfl hl (by decide) rfl (fun ls hl => ?_)
  refine lv_aload_n hx hb dd_HT_isNameOrPair_9 rfl (lv_at hl 1 rfl) ?_
  have hpr := pr_take k1 k2 hn k3 k4
  refine lv_iload_n hx hb dd_HT_isNameOrPair_10 rfl (lv_at hl 2 rfl) ?_
  refine lv_iload_n hx hb dd_HT_isNameOrPair_11 rfl (lv_at hl 0 rfl) ?_
  refine hm_ci hS (hm_rS 3 (As := [.ref a, .int (nI i), .int (nI k)]) (rest := []) ⟨hx, hb, hml, hown, hts⟩ hE hS hP (kc_HT_isName l B D G M a t ht i k k1 (by omega)) tw_637 tw_635 tw_636 tw_63 (by decide +kernel) rfl rfl ⟨by show 4 + 1 ≤ R.frames; omega, by show 8 + (4 + 11) + 85 ≤ R.locals; omega⟩ rfl hl.1 rfl (Nat.le_of_ble_eq_true rfl) dd_HT_isNameOrPair_12 ⟨by omega, by omega⟩) (fun r4 M5 H locs hw6 hP hS => ?_)
  refine W.widen (k := 0) (n := 0) (by omega) (by omega) ?_
  obtain ⟨rfl, eM5⟩ := hw6
  rw [eM5] at hP
  refine hn_if_eq (tgt := 38) hx hb (bz_b _) dd_HT_isNameOrPair_15 (by decide) (fun c7 => ?_) (fun c7 => ?_)
  · have c1 := bz_f c7
    refine lv_iconst (v := nI 0) hx hb dd_HT_isNameOrPair_38 (by decide +kernel) ?_
    exact hm_Ei (v := nI 0) hx hb hr rfl hS hP (⟨bz_0 (by rw [pr_ok, hpr.1, c1]; rfl), rfl⟩) hlocks (by omega) (by omega) dd_HT_isNameOrPair_39
  · have c1 := bz_t c7
    refine lv_iload_n hx hb dd_HT_isNameOrPair_18 rfl (lv_at hl 0 rfl) ?_
    refine lv_iload_n hx hb dd_HT_isNameOrPair_19 rfl (lv_at hl 3 rfl) ?_
    refine hn_icmp_eq (tgt := 34) hx hb (by omega) (by omega) dd_HT_isNameOrPair_20 (by decide) (fun c8 => ?_) (fun c8 => ?_)
    · have c2 := c8
      refine lv_iconst (v := nI 1) hx hb dd_HT_isNameOrPair_34 (by decide +kernel) ?_
      refine lv_goto (tgt := 39) hx hb dd_HT_isNameOrPair_35 (by decide) ?_
      exact hm_Ei (v := nI 1) hx hb hr rfl hS hP (⟨bz_1 (by rw [pr_ok, hpr.1, hpr.2, c1, List.length_eq_zero_iff.mp (show (tx_sl t k n).length = 0 by rw [tx_sl_len hn]; omega)]; rfl), rfl⟩) hlocks (by omega) (by omega) dd_HT_isNameOrPair_39
    · have c2 := c8
      refine lv_aload_n hx hb dd_HT_isNameOrPair_23 rfl (lv_at hl 1 rfl) ?_
      refine lv_iload_n hx hb dd_HT_isNameOrPair_24 rfl (lv_at hl 0 rfl) ?_
      refine lv_iconst (v := nI 1) hx hb dd_HT_isNameOrPair_25 (by decide +kernel) ?_
      refine hn_iadd hx hb dd_HT_isNameOrPair_26 ?_
      refine lv_iload_n hx hb dd_HT_isNameOrPair_27 rfl (lv_at hl 3 rfl) ?_
      refine hm_ci hS (hm_rS 3 (As := [.ref a, .int (nI (k + 1)), .int (nI n)]) (rest := []) ⟨hx, hb, hml, hown, hts⟩ hE hS hP (kc_HT_isValue l B D G M a t ht (k + 1) n (by omega) hn) tw_644 tw_642 tw_643 tw_63 (by decide +kernel) rfl rfl ⟨by show 4 + 1 ≤ R.frames; omega, by show 8 + (4 + 11) + 85 ≤ R.locals; omega⟩ rfl hl.1 rfl (Nat.le_of_ble_eq_true rfl) dd_HT_isNameOrPair_28 ⟨by omega, by omega⟩) (fun r9 M10 H locs hw11 hP hS => ?_)
      refine W.widen (k := 0) (n := 0) (by omega) (by omega) ?_
      obtain ⟨rfl, eM10⟩ := hw11
      rw [eM10] at hP
      refine hn_if_eq (tgt := 38) hx hb (bz_b _) dd_HT_isNameOrPair_31 (by decide) (fun c12 => ?_) (fun c12 => ?_)
      · have c3 := bz_f c12
        refine lv_iconst (v := nI 0) hx hb dd_HT_isNameOrPair_38 (by decide +kernel) ?_
        exact hm_Ei (v := nI 0) hx hb hr rfl hS hP (⟨bz_0 (by rw [pr_ok, hpr.1, hpr.2, c1, tx_sl_hd (show k < n by omega) hn, Bool.true_and]; exact c3), rfl⟩) hlocks (by omega) (by omega) dd_HT_isNameOrPair_39
      · have c3 := bz_t c12
        refine lv_iconst (v := nI 1) hx hb dd_HT_isNameOrPair_34 (by decide +kernel) ?_
        refine lv_goto (tgt := 39) hx hb dd_HT_isNameOrPair_35 (by decide) ?_
        exact hm_Ei (v := nI 1) hx hb hr rfl hS hP (⟨bz_1 (by rw [pr_ok, hpr.1, hpr.2, c1, tx_sl_hd (show k < n by omega) hn, Bool.true_and]; exact c3), rfl⟩) hlocks (by omega) (by omega) dd_HT_isNameOrPair_39
set_option maxHeartbeats 4000000 in
set_option maxRecDepth 100000 in
theorem kc_PT_isJust (l : Launch) (B : Nat) (D : va_G) (G : Nat → Nat) (M : hm_M) (a : Nat) (t : List Nat) (ht : tx_S D M a t) (i n : Nat) (hi : i ≤ n) (hn : n ≤ t.length) (sg : Nat) (hsg : sg < 128) : Met l yy_PT_isJust ws_PT_isJust ({ frames := 4, cells := 0, slots := 0, locals := 85 }) (hm_Pc B D G M [.ref a, .int (nI i), .int (nI n), .int (nI sg)]) (hm_Ni B D (fun r M1 => r = nI (bz (decide (tx_sl t i n = [sg]))) ∧ M1 = M)) (0) (0) (hm_A B) := by
  refine Met.ofW (cc := cd_PT_isJust) (maxL := 4) (ret := ((some FieldType.boolean))) (by decide) rfl ?_
  intro p e s m args below meth c s₁ B0 hml hv
  obtain ⟨rfl, hE, hP⟩ := hv
  have hx := B0.exec
  have hb := B0.bytes
  have hr := B0.returns
  have hts : ∀ w ∈ tb_G, w.before _ s = true := fun w h => atoms_spec (ws := ws_PT_isJust) B0.pre w (List.mem_cons_of_mem _ h)
  have hown : s.vm.findClass "RouteDesk$Pattern" = some m.cls := findClass_of_methodNamed B0.named
  have hlocks := B0.notSynchronized
  have hRf : (headSpec ws_PT_isJust { frames := 4, cells := 0, slots := 0, locals := 85 }).room.frames = 4 := rfl
  have hRl : (headSpec ws_PT_isJust { frames := 4, cells := 0, slots := 0, locals := 85 }).room.locals = 85 := rfl
  have hRc : (headSpec ws_PT_isJust { frames := 4, cells := 0, slots := 0, locals := 85 }).room.cells = 0 := rfl
  have hRs : (headSpec ws_PT_isJust { frames := 4, cells := 0, slots := 0, locals := 85 }).room.slots = 0 := rfl
  generalize (headSpec ws_PT_isJust { frames := 4, cells := 0, slots := 0, locals := 85 }).room = R at hRf hRl hRc hRs ⊢
  have hS : va_S (hm_A B) s.heap s.heap [] := va_S.rf
  have hl := lv_entry ([.ref a, .int (nI i), .int (nI n), .int (nI sg)]) (n := 4) (Nat.le_of_ble_eq_true rfl)
  rw [lg_entry_eq]
  generalize (lg_sl ([.ref a, .int (nI i), .int (nI n), .int (nI sg)]) ++ List.replicate (4 - (lg_sl ([.ref a, .int (nI i), .int (nI n), .int (nI sg)])).length) Slot.unset).toArray = ls at hl ⊢
  have hl : lv_has ls 4 [(0, .ref a), (1, .int (nI i)), (2, .int (nI n)), (3, .int (nI sg))] := hl
  obtain ⟨v, f, h1, h2, h3, h4, h5⟩ := id ht
  refine lv_iload_n hx hb dd_PT_isJust_0 rfl (lv_at hl 2 rfl) ?_
  refine lv_iload_n hx hb dd_PT_isJust_1 rfl (lv_at hl 1 rfl) ?_
  refine hn_isub hx hb (by omega) dd_PT_isJust_2 ?_
  refine lv_iconst (v := nI 1) hx hb dd_PT_isJust_3 (by decide +kernel) ?_
  refine hn_icmp_ne (tgt := 20) hx hb (by omega) (by omega) dd_PT_isJust_4 (by decide) (fun c1 => ?_) (fun c1 => ?_)
  · have c1 := c1
    refine lv_iconst (v := nI 0) hx hb dd_PT_isJust_20 (by decide +kernel) ?_
    exact hm_Ei (v := nI 0) hx hb hr rfl hS hP (⟨bz_0 (decide_eq_false (fun q => c1 (by rw [← tx_sl_len hn, q]; rfl))), rfl⟩) hlocks (by omega) (by omega) dd_PT_isJust_21
  · have c1 := c1
    refine lv_aload_n hx hb dd_PT_isJust_7 rfl (lv_at hl 0 rfl) ?_
    refine lv_iload_n hx hb dd_PT_isJust_8 rfl (lv_at hl 1 rfl) ?_
    refine hm_ci hS (hm_rV 1 (As := [.int (nI i)]) (rest := []) ⟨hx, hb, hml, hown, hts⟩ hE hS hP (kc_ST_charAt l B D G M a t ht i (by omega)) rfl h1 tw_619 tw_919 tw_617 tw_618 tw_39 (by decide +kernel) rfl rfl ⟨by show 3 + 1 ≤ R.frames; omega, by show 8 + (2 + 11) + 64 ≤ R.locals; omega⟩ rfl hl.1 rfl (Nat.le_of_ble_eq_true rfl) dd_PT_isJust_9 ⟨by omega, by omega⟩) (fun r2 M3 H locs hw4 hP hS => ?_)
    refine W.widen (k := 0) (n := 0) (by omega) (by omega) ?_
    obtain ⟨rfl, eM3⟩ := hw4
    rw [eM3] at hP
    have bM3 := tx_lt h4 i
    refine lv_iload_n hx hb dd_PT_isJust_12 rfl (lv_at hl 3 rfl) ?_
    refine hn_icmp_ne (tgt := 20) hx hb (by omega) (by omega) dd_PT_isJust_13 (by decide) (fun c5 => ?_) (fun c5 => ?_)
    · have c2 := c5
      refine lv_iconst (v := nI 0) hx hb dd_PT_isJust_20 (by decide +kernel) ?_
      exact hm_Ei (v := nI 0) hx hb hr rfl hS hP (⟨bz_0 (decide_eq_false (fun q => c2 (by have e := tx_sl_get (a := i) (j := 0) hn (by omega); rw [q] at e; exact e.symm))), rfl⟩) hlocks (by omega) (by omega) dd_PT_isJust_21
    · have c2 := c5
      refine lv_iconst (v := nI 1) hx hb dd_PT_isJust_16 (by decide +kernel) ?_
      refine lv_goto (tgt := 21) hx hb dd_PT_isJust_17 (by decide) ?_
      exact hm_Ei (v := nI 1) hx hb hr rfl hS hP (⟨bz_1 (decide_eq_true (by rw [tx_sl_hd (by omega) hn, c2, List.length_eq_zero_iff.mp (show (tx_sl t (i + 1) n).length = 0 by rw [tx_sl_len hn]; omega)])), rfl⟩) hlocks (by omega) (by omega) dd_PT_isJust_21
set_option maxHeartbeats 4000000 in
set_option maxRecDepth 100000 in
theorem kc_PT_hasWildSign (l : Launch) (B : Nat) (D : va_G) (G : Nat → Nat) (M : hm_M) (a : Nat) (t : List Nat) (ht : tx_S D M a t) (i n : Nat) (hi : i ≤ n) (hn : n ≤ t.length) : Met l yy_PT_hasWildSign ws_PT_hasWildSign ({ frames := 5, cells := 0, slots := 0, locals := 109 }) (hm_Pc B D G M [.ref a, .int (nI i), .int (nI n)]) (hm_Ni B D (fun r M1 => r = nI (bz ((tx_sl t i n).any ch_wild)) ∧ M1 = M)) (0) (0) (hm_A B) := by
  refine Met.ofW (cc := cd_PT_hasWildSign) (maxL := 3) (ret := ((some FieldType.boolean))) (by decide) rfl ?_
  intro p e s m args below meth c s₁ B0 hml hv
  obtain ⟨rfl, hE, hP⟩ := hv
  have hx := B0.exec
  have hb := B0.bytes
  have hr := B0.returns
  have hts : ∀ w ∈ tb_G, w.before _ s = true := fun w h => atoms_spec (ws := ws_PT_hasWildSign) B0.pre w (List.mem_cons_of_mem _ h)
  have hown : s.vm.findClass "RouteDesk$Pattern" = some m.cls := findClass_of_methodNamed B0.named
  have hlocks := B0.notSynchronized
  have hRf : (headSpec ws_PT_hasWildSign { frames := 5, cells := 0, slots := 0, locals := 109 }).room.frames = 5 := rfl
  have hRl : (headSpec ws_PT_hasWildSign { frames := 5, cells := 0, slots := 0, locals := 109 }).room.locals = 109 := rfl
  have hRc : (headSpec ws_PT_hasWildSign { frames := 5, cells := 0, slots := 0, locals := 109 }).room.cells = 0 := rfl
  have hRs : (headSpec ws_PT_hasWildSign { frames := 5, cells := 0, slots := 0, locals := 109 }).room.slots = 0 := rfl
  generalize (headSpec ws_PT_hasWildSign { frames := 5, cells := 0, slots := 0, locals := 109 }).room = R at hRf hRl hRc hRs ⊢
  have hS : va_S (hm_A B) s.heap s.heap [] := va_S.rf
  have hl := lv_entry ([.ref a, .int (nI i), .int (nI n)]) (n := 3) (Nat.le_of_ble_eq_true rfl)
  rw [lg_entry_eq]
  generalize (lg_sl ([.ref a, .int (nI i), .int (nI n)]) ++ List.replicate (3 - (lg_sl ([.ref a, .int (nI i), .int (nI n)])).length) Slot.unset).toArray = ls at hl ⊢
  have hl : lv_has ls 3 [(0, .ref a), (1, .int (nI i)), (2, .int (nI n))] := hl
  obtain ⟨v, f, h1, h2, h3, h4, h5⟩ := id ht
  refine lv_aload_n hx hb dd_PT_hasWildSign_0 rfl (lv_at hl 0 rfl) ?_
  refine lv_bipush (v := nI 42) hx hb dd_PT_hasWildSign_1 (by decide +kernel) ?_
  refine lv_iload_n hx hb dd_PT_hasWildSign_3 rfl (lv_at hl 1 rfl) ?_
  refine lv_iload_n hx hb dd_PT_hasWildSign_4 rfl (lv_at hl 2 rfl) ?_
  refine hm_ci hS (hm_rS 4 (As := [.ref a, .int (nI 42), .int (nI i), .int (nI n)]) (rest := []) ⟨hx, hb, hml, hown, hts⟩ hE hS hP (kc_TX_find l B D G M a t ht 42 i n (by omega) hi hn) tw_615 tw_849 tw_614 tw_62 (by decide +kernel) rfl rfl ⟨by show 4 + 1 ≤ R.frames; omega, by show 8 + (5 + 11) + 85 ≤ R.locals; omega⟩ rfl hl.1 rfl (Nat.le_of_ble_eq_true rfl) dd_PT_hasWildSign_5 ⟨by omega, by omega⟩) (fun r1 M2 H locs hw3 hP hS => ?_)
  refine W.widen (k := 0) (n := 0) (by omega) (by omega) ?_
  obtain ⟨k, rfl, k1, k2, k3, k4, eM2⟩ := hw3
  rw [eM2] at hP
  have f1 := fd_any hn k1 k2 k3 k4
  refine lv_iload_n hx hb dd_PT_hasWildSign_8 rfl (lv_at hl 2 rfl) ?_
  refine hn_icmp_lt (tgt := 24) hx hb (by omega) (by omega) dd_PT_hasWildSign_9 (by decide) (fun c4 => ?_) (fun c4 => ?_)
  · have c1 := c4
    refine lv_iconst (v := nI 1) hx hb dd_PT_hasWildSign_24 (by decide +kernel) ?_
    refine lv_goto (tgt := 29) hx hb dd_PT_hasWildSign_25 (by decide) ?_
    exact hm_Ei (v := nI 1) hx hb hr rfl hS hP (⟨bz_1 (by rw [decide_eq_true c1] at f1; obtain ⟨c, q1, q2⟩ := List.any_eq_true.mp f1.symm; exact List.any_eq_true.mpr ⟨c, q1, by rw [ch_wild, q2]; rfl⟩), rfl⟩) hlocks (by omega) (by omega) dd_PT_hasWildSign_29
  · have c1 := c4
    refine lv_aload_n hx hb dd_PT_hasWildSign_12 rfl (lv_at hl 0 rfl) ?_
    refine lv_bipush (v := nI 35) hx hb dd_PT_hasWildSign_13 (by decide +kernel) ?_
    refine lv_iload_n hx hb dd_PT_hasWildSign_15 rfl (lv_at hl 1 rfl) ?_
    refine lv_iload_n hx hb dd_PT_hasWildSign_16 rfl (lv_at hl 2 rfl) ?_
    refine hm_ci hS (hm_rS 4 (As := [.ref a, .int (nI 35), .int (nI i), .int (nI n)]) (rest := []) ⟨hx, hb, hml, hown, hts⟩ hE hS hP (kc_TX_find l B D G M a t ht 35 i n (by omega) hi hn) tw_615 tw_849 tw_614 tw_62 (by decide +kernel) rfl rfl ⟨by show 4 + 1 ≤ R.frames; omega, by show 8 + (5 + 11) + 85 ≤ R.locals; omega⟩ rfl hl.1 rfl (Nat.le_of_ble_eq_true rfl) dd_PT_hasWildSign_17 ⟨by omega, by omega⟩) (fun r5 M6 H locs hw7 hP hS => ?_)
    refine W.widen (k := 0) (n := 0) (by omega) (by omega) ?_
    obtain ⟨o, rfl, o1, o2, o3, o4, eM6⟩ := hw7
    rw [eM6] at hP
    have f2 := fd_any hn o1 o2 o3 o4
    refine lv_iload_n hx hb dd_PT_hasWildSign_20 rfl (lv_at hl 2 rfl) ?_
    refine hn_icmp_ge (tgt := 28) hx hb (by omega) (by omega) dd_PT_hasWildSign_21 (by decide) (fun c8 => ?_) (fun c8 => ?_)
    · have c2 := c8
      refine lv_iconst (v := nI 0) hx hb dd_PT_hasWildSign_28 (by decide +kernel) ?_
      exact hm_Ei (v := nI 0) hx hb hr rfl hS hP (⟨bz_0 (by rw [decide_eq_false (by omega)] at f1 f2; rw [List.any_eq_false]; intro c q1; have e1 := List.any_eq_false.mp f1.symm c q1; have e2 := List.any_eq_false.mp f2.symm c q1; simp only [ch_wild, Bool.or_eq_true, not_or]; exact ⟨e1, e2⟩), rfl⟩) hlocks (by omega) (by omega) dd_PT_hasWildSign_29
    · have c2 := c8
      refine lv_iconst (v := nI 1) hx hb dd_PT_hasWildSign_24 (by decide +kernel) ?_
      refine lv_goto (tgt := 29) hx hb dd_PT_hasWildSign_25 (by decide) ?_
      exact hm_Ei (v := nI 1) hx hb hr rfl hS hP (⟨bz_1 (by rw [decide_eq_true c2] at f2; obtain ⟨c, q1, q2⟩ := List.any_eq_true.mp f2.symm; exact List.any_eq_true.mpr ⟨c, q1, by rw [ch_wild, q2, Bool.or_true]⟩), rfl⟩) hlocks (by omega) (by omega) dd_PT_hasWildSign_29
set_option maxHeartbeats 4000000 in
set_option maxRecDepth 100000 in
theorem kc_PT_countWords (l : Launch) (B : Nat) (D : va_G) (G : Nat → Nat) (M : hm_M) (a : Nat) (t : List Nat) (ht : tx_S D M a t) : Met l yy_PT_countWords ws_PT_countWords ({ frames := 4, cells := 0, slots := 0, locals := 85 }) (hm_Pc B D G M [.ref a]) (hm_Ni B D (fun r M1 => r = nI (wd_sp 46 t).length ∧ M1 = M)) (0) (0) (hm_A B) := by
  refine Met.ofW (cc := cd_PT_countWords) (maxL := 3) (ret := ((some FieldType.int))) (by decide) rfl ?_
  intro p e s m args below meth c s₁ B0 hml hv
  obtain ⟨rfl, hE, hP⟩ := hv
  have hx := B0.exec
  have hb := B0.bytes
  have hr := B0.returns
  have hts : ∀ w ∈ tb_G, w.before _ s = true := fun w h => atoms_spec (ws := ws_PT_countWords) B0.pre w (List.mem_cons_of_mem _ h)
  have hown : s.vm.findClass "RouteDesk$Pattern" = some m.cls := findClass_of_methodNamed B0.named
  have hlocks := B0.notSynchronized
  have hRf : (headSpec ws_PT_countWords { frames := 4, cells := 0, slots := 0, locals := 85 }).room.frames = 4 := rfl
  have hRl : (headSpec ws_PT_countWords { frames := 4, cells := 0, slots := 0, locals := 85 }).room.locals = 85 := rfl
  have hRc : (headSpec ws_PT_countWords { frames := 4, cells := 0, slots := 0, locals := 85 }).room.cells = 0 := rfl
  have hRs : (headSpec ws_PT_countWords { frames := 4, cells := 0, slots := 0, locals := 85 }).room.slots = 0 := rfl
  generalize (headSpec ws_PT_countWords { frames := 4, cells := 0, slots := 0, locals := 85 }).room = R at hRf hRl hRc hRs ⊢
  have hS : va_S (hm_A B) s.heap s.heap [] := va_S.rf
  have hl := lv_entry ([.ref a]) (n := 3) (Nat.le_of_ble_eq_true rfl)
  rw [lg_entry_eq]
  generalize (lg_sl ([.ref a]) ++ List.replicate (3 - (lg_sl ([.ref a])).length) Slot.unset).toArray = ls at hl ⊢
  have hl : lv_has ls 3 [(0, .ref a)] := hl
  obtain ⟨v, f, h1, h2, h3, h4, h5⟩ := id ht
  have hwl := wd_len 46 t
  refine lv_iconst (v := nI 1) hx hb dd_PT_countWords_0 (by decide +kernel) ?_
  refine lv_istore_n (lv' := [(1, .int (nI 1)), (0, .ref a)]) hx hb dd_PT_countWords_1 rfl hl (by decide) rfl (fun ls hl => ?_)
  refine lv_iconst (v := nI 0) hx hb dd_PT_countWords_2 (by decide +kernel) ?_
  refine lv_istore_n (lv' := [(2, .int (nI 0)), (1, .int (nI 1)), (0, .ref a)]) hx hb dd_PT_countWords_3 rfl hl (by decide) rfl (fun ls hl => ?_)
  have lp4 : ∀ (n9 : Nat) (k : Nat) (q : Nat), (k ≤ t.length) → (q + (wd_sp 46 (t.drop k)).length = (wd_sp 46 t).length) → t.length - k < n9 → ∀ (H : Heap) (locs : List Loc) (ls : Array Slot), hm_P D cl_W M H → va_S (hm_A B) s.heap H locs → lv_has ls 3 [(0, .ref a), (1, .int (nI (q + 1))), (2, .int (nI k))] → W p l e R s m ([.ref a] : List Value).toArray below meth c H locs (0) (0) (MQ below (hm_Ni B D (fun r M1 => r = nI (wd_sp 46 t).length ∧ M1 = M)) ([.ref a] : List Value).toArray s (0) (0) (hm_A B)) (F0 m 4 ls []) := by
    intro n9
    induction n9 with
    | zero => intro k q hk hq hm; exact absurd hm (Nat.not_lt_zero _)
    | succ n9 ih4 =>
      intro k q hk hq hm H locs ls hP hS hl
      refine lv_iload_n hx hb dd_PT_countWords_4 rfl (lv_at hl 2 rfl) ?_
      refine lv_aload_n hx hb dd_PT_countWords_5 rfl (lv_at hl 0 rfl) ?_
      refine hm_ci hS (hm_rV 0 (As := []) (rest := [.int (nI k)]) ⟨hx, hb, hml, hown, hts⟩ hE hS hP (kc_ST_length l B D G M a t ht) rfl h1 tw_490 tw_841 tw_488 tw_489 tw_39 (by decide +kernel) rfl rfl ⟨by show 1 + 1 ≤ R.frames; omega, by show 8 + (1 + 11) + 20 ≤ R.locals; omega⟩ rfl hl.1 rfl (Nat.le_of_ble_eq_true rfl) dd_PT_countWords_6 ⟨by omega, by omega⟩) (fun r1 M2 H locs hw3 hP hS => ?_)
      refine W.widen (k := 0) (n := 0) (by omega) (by omega) ?_
      obtain ⟨rfl, eM2⟩ := hw3
      rw [eM2] at hP
      refine hn_icmp_ge (tgt := 31) hx hb (by omega) (by omega) dd_PT_countWords_9 (by decide) (fun c4 => ?_) (fun c4 => ?_)
      · refine lv_iload_n hx hb dd_PT_countWords_31 rfl (lv_at hl 1 rfl) ?_
        exact hm_Ei (v := nI (q + 1)) hx hb hr rfl hS hP (⟨by rw [show t.drop k = [] by rw [List.drop_eq_nil_iff]; omega] at hq; rw [← hq]; rfl, rfl⟩) hlocks (by omega) (by omega) dd_PT_countWords_32
      · refine lv_aload_n hx hb dd_PT_countWords_12 rfl (lv_at hl 0 rfl) ?_
        refine lv_iload_n hx hb dd_PT_countWords_13 rfl (lv_at hl 2 rfl) ?_
        refine hm_ci hS (hm_rV 1 (As := [.int (nI k)]) (rest := []) ⟨hx, hb, hml, hown, hts⟩ hE hS hP (kc_ST_charAt l B D G M a t ht k (by omega)) rfl h1 tw_619 tw_919 tw_617 tw_618 tw_39 (by decide +kernel) rfl rfl ⟨by show 3 + 1 ≤ R.frames; omega, by show 8 + (2 + 11) + 64 ≤ R.locals; omega⟩ rfl hl.1 rfl (Nat.le_of_ble_eq_true rfl) dd_PT_countWords_14 ⟨by omega, by omega⟩) (fun r5 M6 H locs hw7 hP hS => ?_)
        refine W.widen (k := 0) (n := 0) (by omega) (by omega) ?_
        obtain ⟨rfl, eM6⟩ := hw7
        rw [eM6] at hP
        have bM6 := tx_lt h4 k
        refine lv_bipush (v := nI 46) hx hb dd_PT_countWords_17 (by decide +kernel) ?_
        refine hn_icmp_ne (tgt := 25) hx hb (by omega) (by omega) dd_PT_countWords_19 (by decide) (fun c8 => ?_) (fun c8 => ?_)
        · have c2 := c8
          refine lv_iinc (v := nI (k + 1)) (lv' := [(2, .int (nI (k + 1))), (0, .ref a), (1, .int (nI (q + 1)))]) hx hb dd_PT_countWords_25 hl (k := 2) rfl (nI_1 k) (by decide) rfl (fun ls hl => ?_)
          refine lv_goto (tgt := 4) hx hb dd_PT_countWords_28 (by decide) ?_
          exact ih4 (k + 1) q (by omega) (by rw [tx_drop_cons (by omega), wd_len_c] at hq; rw [if_neg c2] at hq; omega) (by omega) _ _ _ hP hS (lv_sub hl [1, 2, 0] rfl)
        · have c2 := c8
          refine lv_iinc (v := nI (q + 1 + 1)) (lv' := [(1, .int (nI (q + 1 + 1))), (0, .ref a), (2, .int (nI k))]) hx hb dd_PT_countWords_22 hl (k := 1) rfl (nI_1 (q + 1)) (by decide) rfl (fun ls hl => ?_)
          refine lv_iinc (v := nI (k + 1)) (lv' := [(2, .int (nI (k + 1))), (1, .int (nI (q + 1 + 1))), (0, .ref a)]) hx hb dd_PT_countWords_25 hl (k := 2) rfl (nI_1 k) (by decide) rfl (fun ls hl => ?_)
          refine lv_goto (tgt := 4) hx hb dd_PT_countWords_28 (by decide) ?_
          exact ih4 (k + 1) (q + 1) (by omega) (by rw [tx_drop_cons (by omega), wd_len_c] at hq; rw [if_pos c2] at hq; omega) (by omega) _ _ _ hP hS (lv_sub hl [2, 1, 0] rfl)
  exact lp4 _ 0 0 (Nat.zero_le _) (by rw [List.drop_zero, Nat.zero_add]) (Nat.lt_succ_self _) _ _ _ hP hS (lv_sub hl [2, 1, 0] rfl)
