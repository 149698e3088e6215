/-! the class's questions -/
theorem ex_out {ex : Nat → Option (Int32 × Int32)} {x : Int32} (h : ¬ in16 x) : ex_at ex x = none := if_neg h
theorem ex_in {ex : Nat → Option (Int32 × Int32)} {x : Int32} (h : in16 x) : ex_at ex x = ex x.toInt.toNat := if_pos h
theorem hi_ne {x y : Int32} (h : ¬ x.toInt = y.toInt) : ¬ x = y := fun e => h (by rw [e])
theorem hi_eq {x y : Int32} (h : x.toInt = y.toInt) : x = y := Int32.toInt_inj.mp h
theorem bz_eq {a b : Bool} (h : bz a = bz b) : a = b := by cases a <;> cases b <;> first | rfl | exact absurd h (by decide)
/-- where the first of a list is that P says -/
def pl_R (P : bd_T → Bool) (bs : List bd_T) (r : Int32) : Prop := (∃ i b, r = nI i ∧ i < 120 ∧ bs[i]? = some b ∧ P b = true ∧ ∀ j, j < i → ∀ b2, bs[j]? = some b2 → P b2 = false) ∨ (r = -1 ∧ ∀ b ∈ bs, P b = false)
theorem bi_get {D : va_G} {O : Nat → Nat} {M : hm_M} {xs : List Nat} {bs : List bd_T} {k : Nat} (h5 : xs.length = bs.length) (h6 : ∀ (j x : Nat) (b : bd_T), xs[j]? = some x → bs[j]? = some b → bd_R D (cz_I O M) x b) (hk : k < bs.length) : ∃ b s, bs[k]? = some b ∧ M (xs.getD k 0) = some (.inr (1, [.int b.1, .int b.2.1, .int (nI (bz b.2.2.1)), .ref s])) ∧ tx_S D M s b.2.2.2 := by
  have e2 := List.getElem?_eq_getElem hk
  obtain ⟨s, q1, q2⟩ := h6 k _ _ (al_get (by omega)) e2
  exact ⟨_, s, e2, cz_I_sub q1, cz_tx q2⟩
theorem tx_o {D : va_G} {M : hm_M} {a : Nat} {t : List Nat} (h : tx_S D M a t) : ∃ v, M a = some (.inr (8, [.ref v, .int (nI 0)])) := by
  obtain ⟨v, f, h1, -⟩ := h
  exact ⟨v, h1⟩
theorem ct_step {P : bd_T → Bool} {bs : List bd_T} {k : Nat} {b : bd_T} (h : bs[k]? = some b) : (bs.take (k + 1)).countP P = (bs.take k).countP P + bz (P b) := by
  rw [List.take_add_one, h, List.countP_append]
  cases hp : P b <;> simp [bz, hp]
theorem ct_le {P : bd_T → Bool} {bs : List bd_T} {k : Nat} : (bs.take k).countP P ≤ k := Nat.le_trans List.countP_le_length (by rw [List.length_take]; omega)

set_option maxHeartbeats 4000000 in
set_option maxRecDepth 100000 in
theorem kc_RD_exchangeAt (l : Launch) (B : Nat) (D : va_G) (G : Nat → Nat) (M : hm_M) (N O : Nat → Nat) (hI : im_R D G N O M) (ex : Nat → Option (Int32 × Int32)) (f : Nat → Option Nat) (hXd : ex_D B D N O M ex f) (x : Int32) : Met l yy_RD_exchangeAt ws_RD_exchangeAt ({ frames := 0, cells := 0, slots := 0, locals := 0 }) (hm_Pc B D G M [.ref (N 0), .int x]) (hm_Nq B D (fun r M1 => M1 = M ∧ ((ex_at ex x = none ∧ r = none) ∨ ∃ a s o, ex_at ex x = some (s, o) ∧ r = some a ∧ M a = some (.inr (2, [.int s, .int o])) ∧ O a = 201 + x.toInt.toNat ∧ B ≤ a ∧ in16 x ∧ f x.toInt.toNat = some a))) (0) (0) (hm_A B) := by
  refine Met.ofW (cc := cd_RD_exchangeAt) (maxL := 2) (ret := ((some (FieldType.object "RouteDesk$Exchange")))) (by decide) rfl ?_
  intro p e s m args below meth c s₁ B0 hml hv
  obtain ⟨rfl, hE, hP⟩ := hv
  have hx := B0.exec
  have hb := B0.bytes
  have hr := B0.returns
  have hts : ∀ w ∈ tb_G, w.before _ s = true := fun w h => atoms_spec (ws := ws_RD_exchangeAt) B0.pre w (List.mem_cons_of_mem _ h)
  have hown : s.vm.findClass "RouteDesk" = some m.cls := findClass_of_methodNamed B0.named
  have hlocks := B0.notSynchronized
  have hRf : (headSpec ws_RD_exchangeAt { frames := 0, cells := 0, slots := 0, locals := 0 }).room.frames = 0 := rfl
  have hRl : (headSpec ws_RD_exchangeAt { frames := 0, cells := 0, slots := 0, locals := 0 }).room.locals = 0 := rfl
  have hRc : (headSpec ws_RD_exchangeAt { frames := 0, cells := 0, slots := 0, locals := 0 }).room.cells = 0 := rfl
  have hRs : (headSpec ws_RD_exchangeAt { frames := 0, cells := 0, slots := 0, locals := 0 }).room.slots = 0 := rfl
  generalize (headSpec ws_RD_exchangeAt { frames := 0, cells := 0, slots := 0, locals := 0 }).room = R at hRf hRl hRc hRs ⊢
  have hS : va_S (hm_A B) s.heap s.heap [] := va_S.rf
  have hl := lv_entry ([.ref (N 0), .int x]) (n := 2) (Nat.le_of_ble_eq_true rfl)
  rw [lg_entry_eq]
  generalize (lg_sl ([.ref (N 0), .int x]) ++ List.replicate (2 - (lg_sl ([.ref (N 0), .int x])).length) Slot.unset).toArray = ls at hl ⊢
  have hl : lv_has ls 2 [(0, .ref (N 0)), (1, .int x)] := hl
  have t16 : (nI 16).toInt = 16 := by decide
  have tm1 : (-1 : Int32).toInt = -1 := by decide
  have t0 : (nI 0).toInt = 0 := by decide
  have t2 : (nI 2).toInt = 2 := by decide
  have t3 : (nI 3).toInt = 3 := by decide
  obtain ⟨x1, x2, x3, x4⟩ := id hXd
  refine lv_iload_n hx hb dd_RD_exchangeAt_0 rfl (lv_at hl 1 rfl) ?_
  refine hi_if_lt (tgt := 19) hx hb dd_RD_exchangeAt_1 (by decide) (fun c1 => ?_) (fun c1 => ?_)
  · refine lv_null hx hb dd_RD_exchangeAt_19 ?_
    exact hm_Eq (v := none) hx hb hr (Or.inl ⟨_, rfl⟩) hS hP (⟨rfl, Or.inl ⟨ex_out (fun h9 => by have := h9.1; have := h9.2; omega), rfl⟩⟩) hlocks (by omega) (by omega) dd_RD_exchangeAt_20
  · refine lv_iload_n hx hb dd_RD_exchangeAt_4 rfl (lv_at hl 1 rfl) ?_
    refine lv_bipush (v := nI 16) hx hb dd_RD_exchangeAt_5 (by decide +kernel) ?_
    refine hi_icmp_ge (tgt := 19) hx hb dd_RD_exchangeAt_7 (by decide) (fun c2 => ?_) (fun c2 => ?_)
    · refine lv_null hx hb dd_RD_exchangeAt_19 ?_
      exact hm_Eq (v := none) hx hb hr (Or.inl ⟨_, rfl⟩) hS hP (⟨rfl, Or.inl ⟨ex_out (fun h9 => by have := h9.1; have := h9.2; omega), rfl⟩⟩) hlocks (by omega) (by omega) dd_RD_exchangeAt_20
    · refine lv_aload_n hx hb dd_RD_exchangeAt_10 rfl (lv_at hl 0 rfl) ?_
      refine hm_get (ci := 0) (C := rn_RD) (T := ft_RD) (N := 6) hx hb hts fi_RD hown hE.K hP hI.o rfl 1 (by decide) (hts _ tw_185) (fun _ h9 => h9) rfl dd_RD_exchangeAt_11 ?_
      refine lv_iload_n hx hb dd_RD_exchangeAt_14 rfl (lv_at hl 1 rfl) ?_
      refine hm_aald (j := x.toInt.toNat) hx hb hE.K hP 5 x1 rfl (hi_in (by omega) (by omega)) hi_clamp dd_RD_exchangeAt_15 ?_
      refine lv_goto (tgt := 20) hx hb dd_RD_exchangeAt_16 (by decide) ?_
      exact hm_Eq (v := f x.toInt.toNat) hx hb hr (Or.inl ⟨_, rfl⟩) hS hP (⟨rfl, by
          rw [ex_in ⟨by omega, by omega⟩]
          rcases x4 x.toInt.toNat (by omega) with h9 | ⟨a, s, o, g1, g2, g3, g4, g5⟩
          · exact Or.inl h9
          · exact Or.inr ⟨a, s, o, g1, g2, g3, g4, g5, ⟨by omega, by omega⟩, g2⟩⟩) hlocks (by omega) (by omega) dd_RD_exchangeAt_20
set_option maxHeartbeats 4000000 in
set_option maxRecDepth 100000 in
theorem kc_RD_isThere (l : Launch) (B : Nat) (D : va_G) (G : Nat → Nat) (M : hm_M) (N O : Nat → Nat) (hI : im_R D G N O M) (ex : Nat → Option (Int32 × Int32)) (hX : ex_R B D N O M ex) (qs : Nat → Bool) (hQ : qu_R B D N O M qs) (x : Int32) (q : Bool) : Met l yy_RD_isThere ws_RD_isThere ({ frames := 1, cells := 0, slots := 0, locals := 21 }) (hm_Pc B D G M [.ref (N 0), .int x, .int (nI (bz q))]) (hm_Ni B D (fun r M1 => r = nI (bz (th_at ex qs x q)) ∧ M1 = M)) (0) (0) (hm_A B) := by
  refine Met.ofW (cc := cd_RD_isThere) (maxL := 3) (ret := ((some FieldType.boolean))) (by decide) rfl ?_
  intro p e s m args below meth c s₁ B0 hml hv
  obtain ⟨rfl, hE, hP⟩ := hv
  have hx := B0.exec
  have hb := B0.bytes
  have hr := B0.returns
  have hts : ∀ w ∈ tb_G, w.before _ s = true := fun w h => atoms_spec (ws := ws_RD_isThere) B0.pre w (List.mem_cons_of_mem _ h)
  have hown : s.vm.findClass "RouteDesk" = some m.cls := findClass_of_methodNamed B0.named
  have hlocks := B0.notSynchronized
  have hRf : (headSpec ws_RD_isThere { frames := 1, cells := 0, slots := 0, locals := 21 }).room.frames = 1 := rfl
  have hRl : (headSpec ws_RD_isThere { frames := 1, cells := 0, slots := 0, locals := 21 }).room.locals = 21 := rfl
  have hRc : (headSpec ws_RD_isThere { frames := 1, cells := 0, slots := 0, locals := 21 }).room.cells = 0 := rfl
  have hRs : (headSpec ws_RD_isThere { frames := 1, cells := 0, slots := 0, locals := 21 }).room.slots = 0 := rfl
  generalize (headSpec ws_RD_isThere { frames := 1, cells := 0, slots := 0, locals := 21 }).room = R at hRf hRl hRc hRs ⊢
  have hS : va_S (hm_A B) s.heap s.heap [] := va_S.rf
  have hl := lv_entry ([.ref (N 0), .int x, .int (nI (bz q))]) (n := 3) (Nat.le_of_ble_eq_true rfl)
  rw [lg_entry_eq]
  generalize (lg_sl ([.ref (N 0), .int x, .int (nI (bz q))]) ++ List.replicate (3 - (lg_sl ([.ref (N 0), .int x, .int (nI (bz q))])).length) Slot.unset).toArray = ls at hl ⊢
  have hl : lv_has ls 3 [(0, .ref (N 0)), (1, .int x), (2, .int (nI (bz q)))] := hl
  have t16 : (nI 16).toInt = 16 := by decide
  have tm1 : (-1 : Int32).toInt = -1 := by decide
  have t0 : (nI 0).toInt = 0 := by decide
  have t2 : (nI 2).toInt = 2 := by decide
  have t3 : (nI 3).toInt = 3 := by decide
  obtain ⟨f, x1, x2, x3, x4⟩ := id hX
  refine lv_iload_n hx hb dd_RD_isThere_0 rfl (lv_at hl 2 rfl) ?_
  refine hn_if_eq (tgt := 29) hx hb (bz_b _) dd_RD_isThere_1 (by decide) (fun c1 => ?_) (fun c1 => ?_)
  · have hq := bz_f c1
    refine lv_aload_n hx hb dd_RD_isThere_29 rfl (lv_at hl 0 rfl) ?_
    refine lv_iload_n hx hb dd_RD_isThere_30 rfl (lv_at hl 1 rfl) ?_
    refine hm_cq hS (hm_rV 1 (As := [.int x]) (rest := []) ⟨hx, hb, hml, hown, hts⟩ hE hS hP (kc_RD_exchangeAt l B D G M N O hI ex f ⟨x1, x2, x3, x4⟩ x) rfl hI.o tw_319 tw_316 tw_318 tw_0 tw_36 (by decide +kernel) rfl rfl ⟨by show 0 + 1 ≤ R.frames; omega, by show 8 + (2 + 11) + 0 ≤ R.locals; omega⟩ rfl hl.1 rfl (Nat.le_of_ble_eq_true rfl) dd_RD_isThere_31 ⟨by omega, by omega⟩) (fun r2 M3 H locs hw4 hP hS => ?_)
    refine W.widen (k := 0) (n := 0) (by omega) (by omega) ?_
    obtain ⟨eM3, qM3⟩ := hw4
    rw [eM3] at hP
    rcases qM3 with ⟨he, rfl⟩ | ⟨a, s9, o9, he, rfl, he2, he3, he4, he5, he6⟩
    · refine lv_ifnullN (tgt := 41) hx hb dd_RD_isThere_34 (by decide) ?_
      refine lv_iconst (v := nI 0) hx hb dd_RD_isThere_41 (by decide +kernel) ?_
      exact hm_Ei (v := nI 0) hx hb hr rfl hS hP (⟨by first | exact bz_0 (by rw [th_at, hq, he]; rfl) | exact bz_1 (by rw [th_at, hq, he]; rfl), rfl⟩) hlocks (by omega) (by omega) dd_RD_isThere_42
    · refine lv_ifnull hx hb dd_RD_isThere_34 ?_
      refine lv_iconst (v := nI 1) hx hb dd_RD_isThere_37 (by decide +kernel) ?_
      refine lv_goto (tgt := 42) hx hb dd_RD_isThere_38 (by decide) ?_
      exact hm_Ei (v := nI 1) hx hb hr rfl hS hP (⟨by first | exact bz_0 (by rw [th_at, hq, he]; rfl) | exact bz_1 (by rw [th_at, hq, he]; rfl), rfl⟩) hlocks (by omega) (by omega) dd_RD_isThere_42
  · have hq := bz_t c1
    refine lv_iload_n hx hb dd_RD_isThere_4 rfl (lv_at hl 1 rfl) ?_
    refine hi_if_lt (tgt := 27) hx hb dd_RD_isThere_5 (by decide) (fun c5 => ?_) (fun c5 => ?_)
    · refine lv_iconst (v := nI 0) hx hb dd_RD_isThere_27 (by decide +kernel) ?_
      exact hm_Ei (v := nI 0) hx hb hr rfl hS hP (⟨bz_0 (by rw [th_at, hq, if_pos rfl, qu_at, decide_eq_false (fun h9 => by have := h9.1; have := h9.2; omega), Bool.false_and]), rfl⟩) hlocks (by omega) (by omega) dd_RD_isThere_28
    · refine lv_iload_n hx hb dd_RD_isThere_8 rfl (lv_at hl 1 rfl) ?_
      refine lv_bipush (v := nI 16) hx hb dd_RD_isThere_9 (by decide +kernel) ?_
      refine hi_icmp_ge (tgt := 27) hx hb dd_RD_isThere_11 (by decide) (fun c6 => ?_) (fun c6 => ?_)
      · refine lv_iconst (v := nI 0) hx hb dd_RD_isThere_27 (by decide +kernel) ?_
        exact hm_Ei (v := nI 0) hx hb hr rfl hS hP (⟨bz_0 (by rw [th_at, hq, if_pos rfl, qu_at, decide_eq_false (fun h9 => by have := h9.1; have := h9.2; omega), Bool.false_and]), rfl⟩) hlocks (by omega) (by omega) dd_RD_isThere_28
      · refine lv_aload_n hx hb dd_RD_isThere_14 rfl (lv_at hl 0 rfl) ?_
        refine hm_get (ci := 0) (C := rn_RD) (T := ft_RD) (N := 6) hx hb hts fi_RD hown hE.K hP hI.o rfl 2 (by decide) (hts _ tw_186) (fun _ h9 => h9) rfl dd_RD_isThere_15 ?_
        refine lv_iload_n hx hb dd_RD_isThere_18 rfl (lv_at hl 1 rfl) ?_
        refine hm_zald (j := x.toInt.toNat) hx hb hE.K hP 1 hQ.1 rfl (hi_in (by omega) (by omega)) hi_clamp dd_RD_isThere_19 ?_
        refine W.eq (g2 := F0 m 20 ls [.int (nI (bz (qs x.toInt.toNat)))]) rfl ?_
        refine hn_if_eq (tgt := 27) hx hb (bz_b _) dd_RD_isThere_20 (by decide) (fun c7 => ?_) (fun c7 => ?_)
        · have c4 := bz_f c7
          refine lv_iconst (v := nI 0) hx hb dd_RD_isThere_27 (by decide +kernel) ?_
          exact hm_Ei (v := nI 0) hx hb hr rfl hS hP (⟨bz_0 (by rw [th_at, hq, if_pos rfl, qu_at, c4, Bool.and_false]), rfl⟩) hlocks (by omega) (by omega) dd_RD_isThere_28
        · have c4 := bz_t c7
          refine lv_iconst (v := nI 1) hx hb dd_RD_isThere_23 (by decide +kernel) ?_
          refine lv_goto (tgt := 28) hx hb dd_RD_isThere_24 (by decide) ?_
          exact hm_Ei (v := nI 1) hx hb hr rfl hS hP (⟨bz_1 (by rw [th_at, hq, if_pos rfl, qu_at, c4, decide_eq_true ⟨by omega, by omega⟩]; rfl), rfl⟩) hlocks (by omega) (by omega) dd_RD_isThere_28
set_option maxHeartbeats 4000000 in
set_option maxRecDepth 100000 in
theorem kc_BI_leadsTo (l : Launch) (B : Nat) (D : va_G) (G : Nat → Nat) (M : hm_M) (b : bd_T) (a s9 : Nat) (hb9 : M a = some (.inr (1, [.int b.1, .int b.2.1, .int (nI (bz b.2.2.1)), .ref s9]))) (x : Int32) (q : Bool) : Met l yy_BI_leadsTo ws_BI_leadsTo ({ frames := 0, cells := 0, slots := 0, locals := 0 }) (hm_Pc B D G M [.ref a, .int x, .int (nI (bz q))]) (hm_Ni B D (fun r M1 => r = nI (bz (bd_to x q b)) ∧ M1 = M)) (0) (0) (hm_A B) := by
  refine Met.ofW (cc := cd_BI_leadsTo) (maxL := 3) (ret := ((some FieldType.boolean))) (by decide) rfl ?_
  intro p e s m args below meth c s₁ B0 hml hv
  obtain ⟨rfl, hE, hP⟩ := hv
  have hx := B0.exec
  have hb := B0.bytes
  have hr := B0.returns
  have hts : ∀ w ∈ tb_G, w.before _ s = true := fun w h => atoms_spec (ws := ws_BI_leadsTo) B0.pre w (List.mem_cons_of_mem _ h)
  have hown : s.vm.findClass "RouteDesk$Binding" = some m.cls := findClass_of_methodNamed B0.named
  have hlocks := B0.notSynchronized
  have hRf : (headSpec ws_BI_leadsTo { frames := 0, cells := 0, slots := 0, locals := 0 }).room.frames = 0 := rfl
  have hRl : (headSpec ws_BI_leadsTo { frames := 0, cells := 0, slots := 0, locals := 0 }).room.locals = 0 := rfl
  have hRc : (headSpec ws_BI_leadsTo { frames := 0, cells := 0, slots := 0, locals := 0 }).room.cells = 0 := rfl
  have hRs : (headSpec ws_BI_leadsTo { frames := 0, cells := 0, slots := 0, locals := 0 }).room.slots = 0 := rfl
  generalize (headSpec ws_BI_leadsTo { frames := 0, cells := 0, slots := 0, locals := 0 }).room = R at hRf hRl hRc hRs ⊢
  have hS : va_S (hm_A B) s.heap s.heap [] := va_S.rf
  have hl := lv_entry ([.ref a, .int x, .int (nI (bz q))]) (n := 3) (Nat.le_of_ble_eq_true rfl)
  rw [lg_entry_eq]
  generalize (lg_sl ([.ref a, .int x, .int (nI (bz q))]) ++ List.replicate (3 - (lg_sl ([.ref a, .int x, .int (nI (bz q))])).length) Slot.unset).toArray = ls at hl ⊢
  have hl : lv_has ls 3 [(0, .ref a), (1, .int x), (2, .int (nI (bz q)))] := hl
  refine lv_aload_n hx hb dd_BI_leadsTo_0 rfl (lv_at hl 0 rfl) ?_
  refine hm_get (ci := 1) (C := rn_BI) (T := ft_BI) (N := 4) hx hb hts fi_BI hown hE.K hP hb9 rfl 1 (by decide) (hts _ tw_873) (fun _ h9 => h9) rfl dd_BI_leadsTo_1 ?_
  refine lv_iload_n hx hb dd_BI_leadsTo_4 rfl (lv_at hl 1 rfl) ?_
  refine hi_icmp_ne (tgt := 20) hx hb dd_BI_leadsTo_5 (by decide) (fun c1 => ?_) (fun c1 => ?_)
  · have c1 := hi_ne c1
    refine lv_iconst (v := nI 0) hx hb dd_BI_leadsTo_20 (by decide +kernel) ?_
    exact hm_Ei (v := nI 0) hx hb hr rfl hS hP (⟨bz_0 (by rw [bd_to, decide_eq_false c1]; rfl), rfl⟩) hlocks (by omega) (by omega) dd_BI_leadsTo_21
  · have c1 := hi_eq (by omega : b.2.1.toInt = x.toInt)
    refine lv_aload_n hx hb dd_BI_leadsTo_8 rfl (lv_at hl 0 rfl) ?_
    refine hm_get (ci := 1) (C := rn_BI) (T := ft_BI) (N := 4) hx hb hts fi_BI hown hE.K hP hb9 rfl 2 (by decide) (hts _ tw_875) (fun _ h9 => h9) rfl dd_BI_leadsTo_9 ?_
    refine lv_iload_n hx hb dd_BI_leadsTo_12 rfl (lv_at hl 2 rfl) ?_
    refine hn_icmp_ne (tgt := 20) hx hb (bz_b _) (bz_b _) dd_BI_leadsTo_13 (by decide) (fun c2 => ?_) (fun c2 => ?_)
    · have c2 : ¬ b.2.2.1 = q := fun h9 => c2 (by rw [h9])
      refine lv_iconst (v := nI 0) hx hb dd_BI_leadsTo_20 (by decide +kernel) ?_
      exact hm_Ei (v := nI 0) hx hb hr rfl hS hP (⟨bz_0 (by rw [bd_to]; simp [c2]), rfl⟩) hlocks (by omega) (by omega) dd_BI_leadsTo_21
    · have c2 := bz_eq (by omega : bz b.2.2.1 = bz q)
      refine lv_iconst (v := nI 1) hx hb dd_BI_leadsTo_16 (by decide +kernel) ?_
      refine lv_goto (tgt := 21) hx hb dd_BI_leadsTo_17 (by decide) ?_
      exact hm_Ei (v := nI 1) hx hb hr rfl hS hP (⟨bz_1 (by rw [bd_to, decide_eq_true c1, c2]; simp), rfl⟩) hlocks (by omega) (by omega) dd_BI_leadsTo_21
set_option maxHeartbeats 4000000 in
set_option maxRecDepth 100000 in
theorem kc_RD_placeOf (l : Launch) (B : Nat) (D : va_G) (G : Nat → Nat) (M : hm_M) (N O : Nat → Nat) (hI : im_R D G N O M) (bs : List bd_T) (hB : bi_R B D G N O M bs) (x y : Int32) (q : Bool) (a : Nat) (t : List Nat) (ht : tx_S D M a t) : Met l yy_RD_placeOf ws_RD_placeOf ({ frames := 3, cells := 0, slots := 0, locals := 64 }) (hm_Pc B D G M [.ref (N 0), .int x, .int y, .int (nI (bz q)), .ref a]) (hm_Ni B D (fun r M1 => pl_R (bd_is x y q t) bs r ∧ M1 = M)) (0) (0) (hm_A B) := by
  refine Met.ofW (cc := cd_RD_placeOf) (maxL := 7) (ret := ((some FieldType.int))) (by decide) rfl ?_
  intro p e s m args below meth c s₁ B0 hml hv
  obtain ⟨rfl, hE, hP⟩ := hv
  have hx := B0.exec
  have hb := B0.bytes
  have hr := B0.returns
  have hts : ∀ w ∈ tb_G, w.before _ s = true := fun w h => atoms_spec (ws := ws_RD_placeOf) B0.pre w (List.mem_cons_of_mem _ h)
  have hown : s.vm.findClass "RouteDesk" = some m.cls := findClass_of_methodNamed B0.named
  have hlocks := B0.notSynchronized
  have hRf : (headSpec ws_RD_placeOf { frames := 3, cells := 0, slots := 0, locals := 64 }).room.frames = 3 := rfl
  have hRl : (headSpec ws_RD_placeOf { frames := 3, cells := 0, slots := 0, locals := 64 }).room.locals = 64 := rfl
  have hRc : (headSpec ws_RD_placeOf { frames := 3, cells := 0, slots := 0, locals := 64 }).room.cells = 0 := rfl
  have hRs : (headSpec ws_RD_placeOf { frames := 3, cells := 0, slots := 0, locals := 64 }).room.slots = 0 := rfl
  generalize (headSpec ws_RD_placeOf { frames := 3, cells := 0, slots := 0, locals := 64 }).room = R at hRf hRl hRc hRs ⊢
  have hS : va_S (hm_A B) s.heap s.heap [] := va_S.rf
  have hl := lv_entry ([.ref (N 0), .int x, .int y, .int (nI (bz q)), .ref a]) (n := 7) (Nat.le_of_ble_eq_true rfl)
  rw [lg_entry_eq]
  generalize (lg_sl ([.ref (N 0), .int x, .int y, .int (nI (bz q)), .ref a]) ++ List.replicate (7 - (lg_sl ([.ref (N 0), .int x, .int y, .int (nI (bz q)), .ref a])).length) Slot.unset).toArray = ls at hl ⊢
  have hl : lv_has ls 7 [(0, .ref (N 0)), (1, .int x), (2, .int y), (3, .int (nI (bz q))), (4, .ref a)] := hl
  obtain ⟨d, xs, b1, b2, b3, b4, b5, b6, b7⟩ := id hB
  obtain ⟨n4, f4, mo4, bb1, bb2, bb3⟩ := id b1
  refine lv_iconst (v := nI 0) hx hb dd_RD_placeOf_0 (by decide +kernel) ?_
  refine lv_istore (lv' := [(5, .int (nI 0)), (0, .ref (N 0)), (1, .int x), (2, .int y), (3, .int (nI (bz q))), (4, .ref a)]) hx hb dd_RD_placeOf_1 hl (by decide) rfl (fun ls hl => ?_)
  have lp3 : ∀ (n9 : Nat) (k : Nat), (k ≤ bs.length) → (∀ j, j < k → ∀ b2, bs[j]? = some b2 → bd_is x y q t b2 = false) → bs.length - k < n9 → ∀ (H : Heap) (locs : List Loc) (ls : Array Slot), hm_P D cl_W M H → va_S (hm_A B) s.heap H locs → lv_has ls 7 [(0, .ref (N 0)), (1, .int x), (2, .int y), (3, .int (nI (bz q))), (4, .ref a), (5, .int (nI k))] → W p l e R s m ([.ref (N 0), .int x, .int y, .int (nI (bz q)), .ref a] : List Value).toArray below meth c H locs (0) (0) (MQ below (hm_Ni B D (fun r M1 => pl_R (bd_is x y q t) bs r ∧ M1 = M)) ([.ref (N 0), .int x, .int y, .int (nI (bz q)), .ref a] : List Value).toArray s (0) (0) (hm_A B)) (F0 m 3 ls []) := by
    intro n9
    induction n9 with
    | zero => intro k hk hno hm; exact absurd hm (Nat.not_lt_zero _)
    | succ n9 ih3 =>
      intro k hk hno hm H locs ls hP hS hl
      refine lv_iload hx hb dd_RD_placeOf_3 (lv_at hl 5 rfl) ?_
      refine lv_aload_n hx hb dd_RD_placeOf_5 rfl (lv_at hl 0 rfl) ?_
      refine hm_get (ci := 0) (C := rn_RD) (T := ft_RD) (N := 6) hx hb hts fi_RD hown hE.K hP hI.o rfl 3 (by decide) (hts _ tw_187) (fun _ h9 => h9) rfl dd_RD_placeOf_6 ?_
      refine hm_ci hS (hm_rV 0 (As := []) (rest := [.int (nI k)]) ⟨hx, hb, hml, hown, hts⟩ hE hS hP (kc_AL_size l B D G M 1 (N 4) xs b1.L) rfl bb1 tw_331 tw_328 tw_329 tw_330 tw_43 (by decide +kernel) rfl rfl ⟨by show 0 + 1 ≤ R.frames; omega, by show 8 + (1 + 11) + 0 ≤ R.locals; omega⟩ rfl hl.1 rfl (Nat.le_of_ble_eq_true rfl) dd_RD_placeOf_9 ⟨by omega, by omega⟩) (fun r1 M2 H locs hw3 hP hS => ?_)
      refine W.widen (k := 0) (n := 0) (by omega) (by omega) ?_
      obtain ⟨rfl, eM2⟩ := hw3
      rw [eM2] at hP
      refine hn_icmp_ge (tgt := 70) hx hb (by omega) (by omega) dd_RD_placeOf_12 (by decide) (fun c4 => ?_) (fun c4 => ?_)
      · refine lv_iconst (v := (-1)) hx hb dd_RD_placeOf_70 (by decide +kernel) ?_
        exact hm_Ei (v := (-1)) hx hb hr rfl hS hP (⟨Or.inr ⟨rfl, fun b hb => by
            obtain ⟨j, hj⟩ := List.getElem?_of_mem hb
            exact hno j (by have := (List.getElem?_eq_some_iff.mp hj).1; omega) b hj⟩, rfl⟩) hlocks (by omega) (by omega) dd_RD_placeOf_71
      · refine lv_aload_n hx hb dd_RD_placeOf_15 rfl (lv_at hl 0 rfl) ?_
        refine hm_get (ci := 0) (C := rn_RD) (T := ft_RD) (N := 6) hx hb hts fi_RD hown hE.K hP hI.o rfl 3 (by decide) (hts _ tw_187) (fun _ h9 => h9) rfl dd_RD_placeOf_16 ?_
        refine lv_iload hx hb dd_RD_placeOf_19 (lv_at hl 5 rfl) ?_
        refine hm_cr hS (hm_rV 1 (As := [.int (nI k)]) (rest := []) ⟨hx, hb, hml, hown, hts⟩ hE hS hP (kc_AL_get l B D G M 1 (N 4) xs b1.L k (by omega)) rfl bb1 tw_335 tw_332 tw_333 tw_334 tw_43 (by decide +kernel) rfl rfl ⟨by show 2 + 1 ≤ R.frames; omega, by show 8 + (2 + 11) + 43 ≤ R.locals; omega⟩ rfl hl.1 rfl (Nat.le_of_ble_eq_true rfl) dd_RD_placeOf_21 ⟨by omega, by omega⟩) (fun r5 M6 H locs hw7 hP hS => ?_)
        refine W.widen (k := 0) (n := 0) (by omega) (by omega) ?_
        obtain ⟨rfl, eM6⟩ := hw7
        rw [eM6] at hP
        obtain ⟨b, s9, hb1, hb2, hb3⟩ := bi_get b5 b6 (show k < bs.length by omega)
        obtain ⟨vs9, hs9⟩ := tx_o hb3
        refine va_castE hx hb hown (hts _ tw_344) (hm_recv hE.K hP rfl hb2) dd_RD_placeOf_24 ?_
        refine lv_astore (lv' := [(6, .ref (xs.getD k 0)), (0, .ref (N 0)), (1, .int x), (2, .int y), (3, .int (nI (bz q))), (4, .ref a), (5, .int (nI k))]) hx hb dd_RD_placeOf_27 hl (by decide) rfl (fun ls hl => ?_)
        refine lv_aload hx hb dd_RD_placeOf_29 (lv_at hl 0 rfl) ?_
        refine hm_getN (ci := 1) (C := rn_BI) (T := ft_BI) (N := 4) hx hb hts fi_BI hown hE.K hP hb2 rfl 0 (by decide) (va_Nw.use rfl (hE.nest 18 rfl)) (fun _ h9 => h9) rfl dd_RD_placeOf_31 ?_
        refine lv_iload_n hx hb dd_RD_placeOf_34 rfl (lv_at hl 2 rfl) ?_
        refine hi_icmp_ne (tgt := 64) hx hb dd_RD_placeOf_35 (by decide) (fun c8 => ?_) (fun c8 => ?_)
        · have c1 := hi_ne c8
          refine lv_iinc (v := nI (k + 1)) (lv' := [(5, .int (nI (k + 1))), (6, .ref (xs.getD k 0)), (0, .ref (N 0)), (1, .int x), (2, .int y), (3, .int (nI (bz q))), (4, .ref a)]) hx hb dd_RD_placeOf_64 hl (k := 6) rfl (nI_1 k) (by decide) rfl (fun ls hl => ?_)
          refine lv_goto (tgt := 3) hx hb dd_RD_placeOf_67 (by decide) ?_
          exact ih3 (k + 1) (by omega) (fun j hj z2 hz2 => by
              by_cases h9 : j = k
              · subst h9; rw [hb1] at hz2; cases hz2; rw [bd_is, bd_fr, decide_eq_false c1]; rfl
              · exact hno j (by omega) z2 hz2) (by omega) _ _ _ hP hS (lv_sub hl [2, 3, 4, 5, 6, 0] rfl)
        · have c1 := hi_eq (by omega : b.1.toInt = x.toInt)
          refine lv_aload hx hb dd_RD_placeOf_38 (lv_at hl 0 rfl) ?_
          refine lv_iload_n hx hb dd_RD_placeOf_40 rfl (lv_at hl 3 rfl) ?_
          refine lv_iload_n hx hb dd_RD_placeOf_41 rfl (lv_at hl 4 rfl) ?_
          refine hm_ci hS (hm_rV 2 (As := [.int y, .int (nI (bz q))]) (rest := []) ⟨hx, hb, hml, hown, hts⟩ hE hS hP (kc_BI_leadsTo l B D G M b (xs.getD k 0) s9 hb2 y q) rfl hb2 tw_348 tw_345 tw_346 tw_347 tw_64 (by decide +kernel) rfl rfl ⟨by show 0 + 1 ≤ R.frames; omega, by show 8 + (3 + 11) + 0 ≤ R.locals; omega⟩ rfl hl.1 rfl (Nat.le_of_ble_eq_true rfl) dd_RD_placeOf_42 ⟨by omega, by omega⟩) (fun r9 M10 H locs hw11 hP hS => ?_)
          refine W.widen (k := 0) (n := 0) (by omega) (by omega) ?_
          obtain ⟨rfl, eM10⟩ := hw11
          rw [eM10] at hP
          refine hn_if_eq (tgt := 64) hx hb (bz_b _) dd_RD_placeOf_45 (by decide) (fun c12 => ?_) (fun c12 => ?_)
          · have c2 := bz_f c12
            refine lv_iinc (v := nI (k + 1)) (lv' := [(5, .int (nI (k + 1))), (6, .ref (xs.getD k 0)), (0, .ref (N 0)), (1, .int x), (2, .int y), (3, .int (nI (bz q))), (4, .ref a)]) hx hb dd_RD_placeOf_64 hl (k := 6) rfl (nI_1 k) (by decide) rfl (fun ls hl => ?_)
            refine lv_goto (tgt := 3) hx hb dd_RD_placeOf_67 (by decide) ?_
            exact ih3 (k + 1) (by omega) (fun j hj z2 hz2 => by
                by_cases h9 : j = k
                · subst h9; rw [hb1] at hz2; cases hz2; rw [bd_is, c2, Bool.false_and, Bool.and_false]
                · exact hno j (by omega) z2 hz2) (by omega) _ _ _ hP hS (lv_sub hl [2, 3, 4, 5, 6, 0] rfl)
          · have c2 := bz_t c12
            refine lv_aload hx hb dd_RD_placeOf_48 (lv_at hl 0 rfl) ?_
            refine hm_getN (ci := 1) (C := rn_BI) (T := ft_BI) (N := 4) hx hb hts fi_BI hown hE.K hP hb2 rfl 3 (by decide) (va_Nw.use rfl (hE.nest 21 rfl)) (fun _ h9 => h9) rfl dd_RD_placeOf_50 ?_
            refine lv_aload hx hb dd_RD_placeOf_53 (lv_at hl 5 rfl) ?_
            refine hm_ci hS (hm_rV 1 (As := [.ref a]) (rest := []) ⟨hx, hb, hml, hown, hts⟩ hE hS hP (kc_ST_equals l B D G M s9 b.2.2.2 hb3 a t ht) rfl hs9 tw_591 tw_588 tw_589 tw_590 tw_39 (by decide +kernel) rfl rfl ⟨by show 1 + 1 ≤ R.frames; omega, by show 8 + (3 + 11) + 22 ≤ R.locals; omega⟩ rfl hl.1 rfl (Nat.le_of_ble_eq_true rfl) dd_RD_placeOf_55 ⟨by omega, by omega⟩) (fun r13 M14 H locs hw15 hP hS => ?_)
            refine W.widen (k := 0) (n := 0) (by omega) (by omega) ?_
            obtain ⟨rfl, eM14⟩ := hw15
            rw [eM14] at hP
            refine hn_if_eq (tgt := 64) hx hb (by split <;> omega) dd_RD_placeOf_58 (by decide) (fun c16 => ?_) (fun c16 => ?_)
            · have c3 : ¬ b.2.2.2 = t := fun h9 => by rw [if_pos h9] at c16; omega
              refine lv_iinc (v := nI (k + 1)) (lv' := [(5, .int (nI (k + 1))), (6, .ref (xs.getD k 0)), (0, .ref (N 0)), (1, .int x), (2, .int y), (3, .int (nI (bz q))), (4, .ref a)]) hx hb dd_RD_placeOf_64 hl (k := 6) rfl (nI_1 k) (by decide) rfl (fun ls hl => ?_)
              refine lv_goto (tgt := 3) hx hb dd_RD_placeOf_67 (by decide) ?_
              exact ih3 (k + 1) (by omega) (fun j hj z2 hz2 => by
                  by_cases h9 : j = k
                  · subst h9; rw [hb1] at hz2; cases hz2; rw [bd_is, decide_eq_false c3, Bool.and_false, Bool.and_false]
                  · exact hno j (by omega) z2 hz2) (by omega) _ _ _ hP hS (lv_sub hl [2, 3, 4, 5, 6, 0] rfl)
            · have c3 : b.2.2.2 = t := by
                by_cases h9 : b.2.2.2 = t
                · exact h9
                · rw [if_neg h9] at c16; omega
              refine lv_iload hx hb dd_RD_placeOf_61 (lv_at hl 6 rfl) ?_
              exact hm_Ei (v := nI k) hx hb hr rfl hS hP (⟨Or.inl ⟨k, b, rfl, by omega, hb1, by rw [bd_is, bd_fr, decide_eq_true c1, c2, decide_eq_true c3]; rfl, hno⟩, rfl⟩) hlocks (by omega) (by omega) dd_RD_placeOf_63
  exact lp3 _ 0 (Nat.zero_le _) (fun j hj => absurd hj (Nat.not_lt_zero _)) (Nat.lt_succ_self _) _ _ _ hP hS (lv_sub hl [1, 2, 3, 4, 5, 0] rfl)
set_option maxHeartbeats 4000000 in
set_option maxRecDepth 100000 in
theorem kc_RD_countTo (l : Launch) (B : Nat) (D : va_G) (G : Nat → Nat) (M : hm_M) (N O : Nat → Nat) (hI : im_R D G N O M) (bs : List bd_T) (hB : bi_R B D G N O M bs) (x : Int32) (q : Bool) : Met l yy_RD_countTo ws_RD_countTo ({ frames := 3, cells := 0, slots := 0, locals := 64 }) (hm_Pc B D G M [.ref (N 0), .int x, .int (nI (bz q))]) (hm_Ni B D (fun r M1 => r = nI (bs.countP (bd_to x q)) ∧ M1 = M)) (0) (0) (hm_A B) := by
  refine Met.ofW (cc := cd_RD_countTo) (maxL := 5) (ret := ((some FieldType.int))) (by decide) rfl ?_
  intro p e s m args below meth c s₁ B0 hml hv
  obtain ⟨rfl, hE, hP⟩ := hv
  have hx := B0.exec
  have hb := B0.bytes
  have hr := B0.returns
  have hts : ∀ w ∈ tb_G, w.before _ s = true := fun w h => atoms_spec (ws := ws_RD_countTo) B0.pre w (List.mem_cons_of_mem _ h)
  have hown : s.vm.findClass "RouteDesk" = some m.cls := findClass_of_methodNamed B0.named
  have hlocks := B0.notSynchronized
  have hRf : (headSpec ws_RD_countTo { frames := 3, cells := 0, slots := 0, locals := 64 }).room.frames = 3 := rfl
  have hRl : (headSpec ws_RD_countTo { frames := 3, cells := 0, slots := 0, locals := 64 }).room.locals = 64 := rfl
  have hRc : (headSpec ws_RD_countTo { frames := 3, cells := 0, slots := 0, locals := 64 }).room.cells = 0 := rfl
  have hRs : (headSpec ws_RD_countTo { frames := 3, cells := 0, slots := 0, locals := 64 }).room.slots = 0 := rfl
  generalize (headSpec ws_RD_countTo { frames := 3, cells := 0, slots := 0, locals := 64 }).room = R at hRf hRl hRc hRs ⊢
  have hS : va_S (hm_A B) s.heap s.heap [] := va_S.rf
  have hl := lv_entry ([.ref (N 0), .int x, .int (nI (bz q))]) (n := 5) (Nat.le_of_ble_eq_true rfl)
  rw [lg_entry_eq]
  generalize (lg_sl ([.ref (N 0), .int x, .int (nI (bz q))]) ++ List.replicate (5 - (lg_sl ([.ref (N 0), .int x, .int (nI (bz q))])).length) Slot.unset).toArray = ls at hl ⊢
  have hl : lv_has ls 5 [(0, .ref (N 0)), (1, .int x), (2, .int (nI (bz q)))] := hl
  obtain ⟨d, xs, b1, b2, b3, b4, b5, b6, b7⟩ := id hB
  obtain ⟨n4, f4, mo4, bb1, bb2, bb3⟩ := id b1
  refine lv_iconst (v := nI 0) hx hb dd_RD_countTo_0 (by decide +kernel) ?_
  refine lv_istore_n (lv' := [(3, .int (nI 0)), (0, .ref (N 0)), (1, .int x), (2, .int (nI (bz q)))]) hx hb dd_RD_countTo_1 rfl hl (by decide) rfl (fun ls hl => ?_)
  refine lv_iconst (v := nI 0) hx hb dd_RD_countTo_2 (by decide +kernel) ?_
  refine lv_istore (lv' := [(4, .int (nI 0)), (3, .int (nI 0)), (0, .ref (N 0)), (1, .int x), (2, .int (nI (bz q)))]) hx hb dd_RD_countTo_3 hl (by decide) rfl (fun ls hl => ?_)
  have lp5 : ∀ (n9 : Nat) (k : Nat) (q9 : Nat), (k ≤ bs.length) → (q9 = (bs.take k).countP (bd_to x q)) → bs.length - k < n9 → ∀ (H : Heap) (locs : List Loc) (ls : Array Slot), hm_P D cl_W M H → va_S (hm_A B) s.heap H locs → lv_has ls 5 [(0, .ref (N 0)), (1, .int x), (2, .int (nI (bz q))), (3, .int (nI q9)), (4, .int (nI k))] → W p l e R s m ([.ref (N 0), .int x, .int (nI (bz q))] : List Value).toArray below meth c H locs (0) (0) (MQ below (hm_Ni B D (fun r M1 => r = nI (bs.countP (bd_to x q)) ∧ M1 = M)) ([.ref (N 0), .int x, .int (nI (bz q))] : List Value).toArray s (0) (0) (hm_A B)) (F0 m 5 ls []) := by
    intro n9
    induction n9 with
    | zero => intro k q9 hk hq9 hm; exact absurd hm (Nat.not_lt_zero _)
    | succ n9 ih5 =>
      intro k q9 hk hq9 hm H locs ls hP hS hl
      have hq8 : q9 ≤ k := by rw [hq9]; exact ct_le
      refine lv_iload hx hb dd_RD_countTo_5 (lv_at hl 4 rfl) ?_
      refine lv_aload_n hx hb dd_RD_countTo_7 rfl (lv_at hl 0 rfl) ?_
      refine hm_get (ci := 0) (C := rn_RD) (T := ft_RD) (N := 6) hx hb hts fi_RD hown hE.K hP hI.o rfl 3 (by decide) (hts _ tw_187) (fun _ h9 => h9) rfl dd_RD_countTo_8 ?_
      refine hm_ci hS (hm_rV 0 (As := []) (rest := [.int (nI k)]) ⟨hx, hb, hml, hown, hts⟩ hE hS hP (kc_AL_size l B D G M 1 (N 4) xs b1.L) rfl bb1 tw_331 tw_328 tw_329 tw_330 tw_43 (by decide +kernel) rfl rfl ⟨by show 0 + 1 ≤ R.frames; omega, by show 8 + (1 + 11) + 0 ≤ R.locals; omega⟩ rfl hl.1 rfl (Nat.le_of_ble_eq_true rfl) dd_RD_countTo_11 ⟨by omega, by omega⟩) (fun r1 M2 H locs hw3 hP hS => ?_)
      refine W.widen (k := 0) (n := 0) (by omega) (by omega) ?_
      obtain ⟨rfl, eM2⟩ := hw3
      rw [eM2] at hP
      refine hn_icmp_ge (tgt := 46) hx hb (by omega) (by omega) dd_RD_countTo_14 (by decide) (fun c4 => ?_) (fun c4 => ?_)
      · refine lv_iload_n hx hb dd_RD_countTo_46 rfl (lv_at hl 3 rfl) ?_
        exact hm_Ei (v := nI q9) hx hb hr rfl hS hP (⟨by rw [hq9, List.take_of_length_le (by omega)], rfl⟩) hlocks (by omega) (by omega) dd_RD_countTo_47
      · refine lv_aload_n hx hb dd_RD_countTo_17 rfl (lv_at hl 0 rfl) ?_
        refine hm_get (ci := 0) (C := rn_RD) (T := ft_RD) (N := 6) hx hb hts fi_RD hown hE.K hP hI.o rfl 3 (by decide) (hts _ tw_187) (fun _ h9 => h9) rfl dd_RD_countTo_18 ?_
        refine lv_iload hx hb dd_RD_countTo_21 (lv_at hl 4 rfl) ?_
        refine hm_cr hS (hm_rV 1 (As := [.int (nI k)]) (rest := []) ⟨hx, hb, hml, hown, hts⟩ hE hS hP (kc_AL_get l B D G M 1 (N 4) xs b1.L k (by omega)) rfl bb1 tw_335 tw_332 tw_333 tw_334 tw_43 (by decide +kernel) rfl rfl ⟨by show 2 + 1 ≤ R.frames; omega, by show 8 + (2 + 11) + 43 ≤ R.locals; omega⟩ rfl hl.1 rfl (Nat.le_of_ble_eq_true rfl) dd_RD_countTo_23 ⟨by omega, by omega⟩) (fun r5 M6 H locs hw7 hP hS => ?_)
        refine W.widen (k := 0) (n := 0) (by omega) (by omega) ?_
        obtain ⟨rfl, eM6⟩ := hw7
        rw [eM6] at hP
        obtain ⟨b, s9, hb1, hb2, hb3⟩ := bi_get b5 b6 (show k < bs.length by omega)
        obtain ⟨vs9, hs9⟩ := tx_o hb3
        refine va_castE hx hb hown (hts _ tw_344) (hm_recv hE.K hP rfl hb2) dd_RD_countTo_26 ?_
        refine lv_iload_n hx hb dd_RD_countTo_29 rfl (lv_at hl 1 rfl) ?_
        refine lv_iload_n hx hb dd_RD_countTo_30 rfl (lv_at hl 2 rfl) ?_
        refine hm_ci hS (hm_rV 2 (As := [.int x, .int (nI (bz q))]) (rest := []) ⟨hx, hb, hml, hown, hts⟩ hE hS hP (kc_BI_leadsTo l B D G M b (xs.getD k 0) s9 hb2 x q) rfl hb2 tw_348 tw_345 tw_346 tw_347 tw_64 (by decide +kernel) rfl rfl ⟨by show 0 + 1 ≤ R.frames; omega, by show 8 + (3 + 11) + 0 ≤ R.locals; omega⟩ rfl hl.1 rfl (Nat.le_of_ble_eq_true rfl) dd_RD_countTo_31 ⟨by omega, by omega⟩) (fun r8 M9 H locs hw10 hP hS => ?_)
        refine W.widen (k := 0) (n := 0) (by omega) (by omega) ?_
        obtain ⟨rfl, eM9⟩ := hw10
        rw [eM9] at hP
        refine hn_if_eq (tgt := 40) hx hb (bz_b _) dd_RD_countTo_34 (by decide) (fun c11 => ?_) (fun c11 => ?_)
        · have c1 := bz_f c11
          refine lv_iinc (v := nI (k + 1)) (lv' := [(4, .int (nI (k + 1))), (0, .ref (N 0)), (1, .int x), (2, .int (nI (bz q))), (3, .int (nI q9))]) hx hb dd_RD_countTo_40 hl (k := 4) rfl (nI_1 k) (by decide) rfl (fun ls hl => ?_)
          refine lv_goto (tgt := 5) hx hb dd_RD_countTo_43 (by decide) ?_
          exact ih5 (k + 1) q9 (by omega) (by rw [ct_step hb1, ← hq9, c1]; rfl) (by omega) _ _ _ hP hS (lv_sub hl [1, 2, 3, 4, 0] rfl)
        · have c1 := bz_t c11
          refine lv_iinc (v := nI (q9 + 1)) (lv' := [(3, .int (nI (q9 + 1))), (0, .ref (N 0)), (1, .int x), (2, .int (nI (bz q))), (4, .int (nI k))]) hx hb dd_RD_countTo_37 hl (k := 3) rfl (nI_1 q9) (by decide) rfl (fun ls hl => ?_)
          refine lv_iinc (v := nI (k + 1)) (lv' := [(4, .int (nI (k + 1))), (3, .int (nI (q9 + 1))), (0, .ref (N 0)), (1, .int x), (2, .int (nI (bz q)))]) hx hb dd_RD_countTo_40 hl (k := 4) rfl (nI_1 k) (by decide) rfl (fun ls hl => ?_)
          refine lv_goto (tgt := 5) hx hb dd_RD_countTo_43 (by decide) ?_
          exact ih5 (k + 1) (q9 + 1) (by omega) (by rw [ct_step hb1, ← hq9, c1]; rfl) (by omega) _ _ _ hP hS (lv_sub hl [2, 3, 4, 1, 0] rfl)
  exact lp5 _ 0 0 (Nat.zero_le _) (rfl) (Nat.lt_succ_self _) _ _ _ hP hS (lv_sub hl [2, 3, 4, 1, 0] rfl)
set_option maxHeartbeats 4000000 in
set_option maxRecDepth 100000 in
theorem kc_RD_countFrom (l : Launch) (B : Nat) (D : va_G) (G : Nat → Nat) (M : hm_M) (N O : Nat → Nat) (hI : im_R D G N O M) (bs : List bd_T) (hB : bi_R B D G N O M bs) (x : Int32) : Met l yy_RD_countFrom ws_RD_countFrom ({ frames := 3, cells := 0, slots := 0, locals := 64 }) (hm_Pc B D G M [.ref (N 0), .int x]) (hm_Ni B D (fun r M1 => r = nI (bs.countP (bd_fr x)) ∧ M1 = M)) (0) (0) (hm_A B) := by
  refine Met.ofW (cc := cd_RD_countFrom) (maxL := 4) (ret := ((some FieldType.int))) (by decide) rfl ?_
  intro p e s m args below meth c s₁ B0 hml hv
  obtain ⟨rfl, hE, hP⟩ := hv
  have hx := B0.exec
  have hb := B0.bytes
  have hr := B0.returns
  have hts : ∀ w ∈ tb_G, w.before _ s = true := fun w h => atoms_spec (ws := ws_RD_countFrom) B0.pre w (List.mem_cons_of_mem _ h)
  have hown : s.vm.findClass "RouteDesk" = some m.cls := findClass_of_methodNamed B0.named
  have hlocks := B0.notSynchronized
  have hRf : (headSpec ws_RD_countFrom { frames := 3, cells := 0, slots := 0, locals := 64 }).room.frames = 3 := rfl
  have hRl : (headSpec ws_RD_countFrom { frames := 3, cells := 0, slots := 0, locals := 64 }).room.locals = 64 := rfl
  have hRc : (headSpec ws_RD_countFrom { frames := 3, cells := 0, slots := 0, locals := 64 }).room.cells = 0 := rfl
  have hRs : (headSpec ws_RD_countFrom { frames := 3, cells := 0, slots := 0, locals := 64 }).room.slots = 0 := rfl
  generalize (headSpec ws_RD_countFrom { frames := 3, cells := 0, slots := 0, locals := 64 }).room = R at hRf hRl hRc hRs ⊢
  have hS : va_S (hm_A B) s.heap s.heap [] := va_S.rf
  have hl := lv_entry ([.ref (N 0), .int x]) (n := 4) (Nat.le_of_ble_eq_true rfl)
  rw [lg_entry_eq]
  generalize (lg_sl ([.ref (N 0), .int x]) ++ List.replicate (4 - (lg_sl ([.ref (N 0), .int x])).length) Slot.unset).toArray = ls at hl ⊢
  have hl : lv_has ls 4 [(0, .ref (N 0)), (1, .int x)] := hl
  obtain ⟨d, xs, b1, b2, b3, b4, b5, b6, b7⟩ := id hB
  obtain ⟨n4, f4, mo4, bb1, bb2, bb3⟩ := id b1
  refine lv_iconst (v := nI 0) hx hb dd_RD_countFrom_0 (by decide +kernel) ?_
  refine lv_istore_n (lv' := [(2, .int (nI 0)), (0, .ref (N 0)), (1, .int x)]) hx hb dd_RD_countFrom_1 rfl hl (by decide) rfl (fun ls hl => ?_)
  refine lv_iconst (v := nI 0) hx hb dd_RD_countFrom_2 (by decide +kernel) ?_
  refine lv_istore_n (lv' := [(3, .int (nI 0)), (2, .int (nI 0)), (0, .ref (N 0)), (1, .int x)]) hx hb dd_RD_countFrom_3 rfl hl (by decide) rfl (fun ls hl => ?_)
  have lp4 : ∀ (n9 : Nat) (k : Nat) (q9 : Nat), (k ≤ bs.length) → (q9 = (bs.take k).countP (bd_fr x)) → bs.length - k < n9 → ∀ (H : Heap) (locs : List Loc) (ls : Array Slot), hm_P D cl_W M H → va_S (hm_A B) s.heap H locs → lv_has ls 4 [(0, .ref (N 0)), (1, .int x), (2, .int (nI q9)), (3, .int (nI k))] → W p l e R s m ([.ref (N 0), .int x] : List Value).toArray below meth c H locs (0) (0) (MQ below (hm_Ni B D (fun r M1 => r = nI (bs.countP (bd_fr x)) ∧ M1 = M)) ([.ref (N 0), .int x] : List Value).toArray s (0) (0) (hm_A B)) (F0 m 4 ls []) := by
    intro n9
    induction n9 with
    | zero => intro k q9 hk hq9 hm; exact absurd hm (Nat.not_lt_zero _)
    | succ n9 ih4 =>
      intro k q9 hk hq9 hm H locs ls hP hS hl
      have hq8 : q9 ≤ k := by rw [hq9]; exact ct_le
      refine lv_iload_n hx hb dd_RD_countFrom_4 rfl (lv_at hl 3 rfl) ?_
      refine lv_aload_n hx hb dd_RD_countFrom_5 rfl (lv_at hl 0 rfl) ?_
      refine hm_get (ci := 0) (C := rn_RD) (T := ft_RD) (N := 6) hx hb hts fi_RD hown hE.K hP hI.o rfl 3 (by decide) (hts _ tw_187) (fun _ h9 => h9) rfl dd_RD_countFrom_6 ?_
      refine hm_ci hS (hm_rV 0 (As := []) (rest := [.int (nI k)]) ⟨hx, hb, hml, hown, hts⟩ hE hS hP (kc_AL_size l B D G M 1 (N 4) xs b1.L) rfl bb1 tw_331 tw_328 tw_329 tw_330 tw_43 (by decide +kernel) rfl rfl ⟨by show 0 + 1 ≤ R.frames; omega, by show 8 + (1 + 11) + 0 ≤ R.locals; omega⟩ rfl hl.1 rfl (Nat.le_of_ble_eq_true rfl) dd_RD_countFrom_9 ⟨by omega, by omega⟩) (fun r1 M2 H locs hw3 hP hS => ?_)
      refine W.widen (k := 0) (n := 0) (by omega) (by omega) ?_
      obtain ⟨rfl, eM2⟩ := hw3
      rw [eM2] at hP
      refine hn_icmp_ge (tgt := 42) hx hb (by omega) (by omega) dd_RD_countFrom_12 (by decide) (fun c4 => ?_) (fun c4 => ?_)
      · refine lv_iload_n hx hb dd_RD_countFrom_42 rfl (lv_at hl 2 rfl) ?_
        exact hm_Ei (v := nI q9) hx hb hr rfl hS hP (⟨by rw [hq9, List.take_of_length_le (by omega)], rfl⟩) hlocks (by omega) (by omega) dd_RD_countFrom_43
      · refine lv_aload_n hx hb dd_RD_countFrom_15 rfl (lv_at hl 0 rfl) ?_
        refine hm_get (ci := 0) (C := rn_RD) (T := ft_RD) (N := 6) hx hb hts fi_RD hown hE.K hP hI.o rfl 3 (by decide) (hts _ tw_187) (fun _ h9 => h9) rfl dd_RD_countFrom_16 ?_
        refine lv_iload_n hx hb dd_RD_countFrom_19 rfl (lv_at hl 3 rfl) ?_
        refine hm_cr hS (hm_rV 1 (As := [.int (nI k)]) (rest := []) ⟨hx, hb, hml, hown, hts⟩ hE hS hP (kc_AL_get l B D G M 1 (N 4) xs b1.L k (by omega)) rfl bb1 tw_335 tw_332 tw_333 tw_334 tw_43 (by decide +kernel) rfl rfl ⟨by show 2 + 1 ≤ R.frames; omega, by show 8 + (2 + 11) + 43 ≤ R.locals; omega⟩ rfl hl.1 rfl (Nat.le_of_ble_eq_true rfl) dd_RD_countFrom_20 ⟨by omega, by omega⟩) (fun r5 M6 H locs hw7 hP hS => ?_)
        refine W.widen (k := 0) (n := 0) (by omega) (by omega) ?_
        obtain ⟨rfl, eM6⟩ := hw7
        rw [eM6] at hP
        obtain ⟨b, s9, hb1, hb2, hb3⟩ := bi_get b5 b6 (show k < bs.length by omega)
        obtain ⟨vs9, hs9⟩ := tx_o hb3
        refine va_castE hx hb hown (hts _ tw_344) (hm_recv hE.K hP rfl hb2) dd_RD_countFrom_23 ?_
        refine hm_getN (ci := 1) (C := rn_BI) (T := ft_BI) (N := 4) hx hb hts fi_BI hown hE.K hP hb2 rfl 0 (by decide) (va_Nw.use rfl (hE.nest 18 rfl)) (fun _ h9 => h9) rfl dd_RD_countFrom_26 ?_
        refine lv_iload_n hx hb dd_RD_countFrom_29 rfl (lv_at hl 1 rfl) ?_
        refine hi_icmp_ne (tgt := 36) hx hb dd_RD_countFrom_30 (by decide) (fun c8 => ?_) (fun c8 => ?_)
        · have c1 : bd_fr x b = false := decide_eq_false (hi_ne c8)
          refine lv_iinc (v := nI (k + 1)) (lv' := [(3, .int (nI (k + 1))), (0, .ref (N 0)), (1, .int x), (2, .int (nI q9))]) hx hb dd_RD_countFrom_36 hl (k := 3) rfl (nI_1 k) (by decide) rfl (fun ls hl => ?_)
          refine lv_goto (tgt := 4) hx hb dd_RD_countFrom_39 (by decide) ?_
          exact ih4 (k + 1) q9 (by omega) (by rw [ct_step hb1, ← hq9, c1]; rfl) (by omega) _ _ _ hP hS (lv_sub hl [1, 2, 3, 0] rfl)
        · have c1 : bd_fr x b = true := decide_eq_true (hi_eq (by omega : b.1.toInt = x.toInt))
          refine lv_iinc (v := nI (q9 + 1)) (lv' := [(2, .int (nI (q9 + 1))), (0, .ref (N 0)), (1, .int x), (3, .int (nI k))]) hx hb dd_RD_countFrom_33 hl (k := 2) rfl (nI_1 q9) (by decide) rfl (fun ls hl => ?_)
          refine lv_iinc (v := nI (k + 1)) (lv' := [(3, .int (nI (k + 1))), (2, .int (nI (q9 + 1))), (0, .ref (N 0)), (1, .int x)]) hx hb dd_RD_countFrom_36 hl (k := 3) rfl (nI_1 k) (by decide) rfl (fun ls hl => ?_)
          refine lv_goto (tgt := 4) hx hb dd_RD_countFrom_39 (by decide) ?_
          exact ih4 (k + 1) (q9 + 1) (by omega) (by rw [ct_step hb1, ← hq9, c1]; rfl) (by omega) _ _ _ hP hS (lv_sub hl [2, 3, 1, 0] rfl)
  exact lp4 _ 0 0 (Nat.zero_le _) (rfl) (Nat.lt_succ_self _) _ _ _ hP hS (lv_sub hl [2, 3, 1, 0] rfl)
