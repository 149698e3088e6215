/-! the class's counts and answers -/
def ex_n (ex : Nat → Option (Int32 × Int32)) : Nat := (List.range 16).countP (fun k => (ex k).isSome)
def of_r (ex : Nat → Option (Int32 × Int32)) (qs : Nat → Bool) (bs : List bd_T) (x w : Int32) : Int32 :=
  if w.toInt = 2 then (if qu_at qs x = true then nI (bs.countP (bd_to x true)) else -1)
  else match ex_at ex x with
    | none => -1
    | some e => if w.toInt = 0 then nI (bs.countP (bd_fr x)) else if w.toInt = 1 then nI (bs.countP (bd_to x false)) else if w.toInt = 3 then e.1 else if w.toInt = 4 then e.2 else -1
def tt_r (ex : Nat → Option (Int32 × Int32)) (qs : Nat → Bool) (bn hn kn : Nat) (w : Int32) : Int32 :=
  if w.toInt = 0 then nI (ex_n ex) else if w.toInt = 1 then nI (qu_n qs) else if w.toInt = 2 then nI bn else if w.toInt = 3 then nI hn else if w.toInt = 4 then nI kn else -1
def tx_for (s : Int32) (t : List Nat) : Bool := if s.toInt = 0 then true else if s.toInt = 1 then decide (t = []) else if s.toInt = 2 then (wd_sp 46 t).all pt_ok else ru_ok t
def mt_for (s : Int32) (key : List Nat) (hs : List (List Nat × List Nat)) (t : List Nat) : Bool := if s.toInt = 0 then decide (t = key) else if s.toInt = 1 then true else if s.toInt = 2 then tp_like t key else ru_met hs t
/-- the found ones in ascending order -/
def fo_l (fo : Nat → Bool) : List Nat := (List.range 16).filter fo
def fo_r (fo : Nat → Bool) (i : Int32) : Int32 := if 0 ≤ i.toInt then (match (fo_l fo)[i.toInt.toNat]? with
  | none => -1
  | some k => nI k) else -1
theorem fo_at {fo : Nat → Bool} {k : Nat} (hk : k < 16) (h : fo k = true) : (fo_l fo)[((List.range k).filter fo).length]? = some k := by
  have e : List.range 16 = List.range k ++ (k :: (List.range (16 - k - 1)).map (fun j => k + 1 + j)) := by
    have h1 : 16 = k + ((16 - k - 1) + 1) := by omega
    conv => lhs; rw [h1, List.range_add, List.range_succ_eq_map]
    simp only [List.map_cons, Nat.add_zero, List.map_map]
    congr 2
    apply List.map_congr_left
    intro j _
    simp only [Function.comp]
    omega
  rw [fo_l, e, List.filter_append, List.filter_cons, if_pos h, List.getElem?_append_right (Nat.le_refl _), Nat.sub_self]
  rfl
theorem fo_st {fo : Nat → Bool} {k : Nat} : ((List.range (k + 1)).filter fo).length = ((List.range k).filter fo).length + bz (fo k) := by
  rw [List.range_succ, List.filter_append, List.length_append]
  cases hp : fo k <;> simp [bz, hp]
theorem fo_le {fo : Nat → Bool} {k : Nat} : ((List.range k).filter fo).length ≤ k := Nat.le_trans (List.length_filter_le _ _) (by rw [List.length_range]; omega)
theorem bz_01 (b : Bool) : (b = false ∧ nI (if b then 1 else 0) = nI 0) ∨ (b = true ∧ nI (if b then 1 else 0) = nI 1) := by cases b <;> simp

set_option maxHeartbeats 4000000 in
set_option maxRecDepth 100000 in
theorem kc_RD_countExchanges (l : Launch) (B : Nat) (D : va_G) (G : Nat → Nat) (M : hm_M) (N O : Nat → Nat) (hI : im_R D G N O M) (ex : Nat → Option (Int32 × Int32)) (hX : ex_R B D N O M ex) : Met l yy_RD_countExchanges ws_RD_countExchanges ({ frames := 0, cells := 0, slots := 0, locals := 0 }) (hm_Pc B D G M [.ref (N 0)]) (hm_Ni B D (fun r M1 => r = nI (ex_n ex) ∧ M1 = M)) (0) (0) (hm_A B) := by
  refine Met.ofW (cc := cd_RD_countExchanges) (maxL := 3) (ret := ((some FieldType.int))) (by decide) rfl ?_
  intro p e s m args below meth c s₁ B0 hml hv
  obtain ⟨rfl, hE, hP⟩ := hv
  have hx := B0.exec
  have hb := B0.bytes
  have hr := B0.returns
  have hts : ∀ w ∈ tb_G, w.before _ s = true := fun w h => atoms_spec (ws := ws_RD_countExchanges) B0.pre w (List.mem_cons_of_mem _ h)
  have hown : s.vm.findClass "RouteDesk" = some m.cls := findClass_of_methodNamed B0.named
  have hlocks := B0.notSynchronized
  have hRf : (headSpec ws_RD_countExchanges { frames := 0, cells := 0, slots := 0, locals := 0 }).room.frames = 0 := rfl
  have hRl : (headSpec ws_RD_countExchanges { frames := 0, cells := 0, slots := 0, locals := 0 }).room.locals = 0 := rfl
  have hRc : (headSpec ws_RD_countExchanges { frames := 0, cells := 0, slots := 0, locals := 0 }).room.cells = 0 := rfl
  have hRs : (headSpec ws_RD_countExchanges { frames := 0, cells := 0, slots := 0, locals := 0 }).room.slots = 0 := rfl
  generalize (headSpec ws_RD_countExchanges { frames := 0, cells := 0, slots := 0, locals := 0 }).room = R at hRf hRl hRc hRs ⊢
  have hS : va_S (hm_A B) s.heap s.heap [] := va_S.rf
  have hl := lv_entry ([.ref (N 0)]) (n := 3) (Nat.le_of_ble_eq_true rfl)
  rw [lg_entry_eq]
  generalize (lg_sl ([.ref (N 0)]) ++ List.replicate (3 - (lg_sl ([.ref (N 0)])).length) Slot.unset).toArray = ls at hl ⊢
  have hl : lv_has ls 3 [(0, .ref (N 0))] := hl
  obtain ⟨f, x1, x2, x3, x4⟩ := id hX
  refine lv_iconst (v := nI 0) hx hb dd_RD_countExchanges_0 (by decide +kernel) ?_
  refine lv_istore_n (lv' := [(1, .int (nI 0)), (0, .ref (N 0))]) hx hb dd_RD_countExchanges_1 rfl hl (by decide) rfl (fun ls hl => ?_)
  refine lv_iconst (v := nI 0) hx hb dd_RD_countExchanges_2 (by decide +kernel) ?_
  refine lv_istore_n (lv' := [(2, .int (nI 0)), (1, .int (nI 0)), (0, .ref (N 0))]) hx hb dd_RD_countExchanges_3 rfl hl (by decide) rfl (fun ls hl => ?_)
  have lp4 : ∀ (n9 : Nat) (k : Nat) (q9 : Nat), (k ≤ 16) → (q9 = (List.range k).countP (fun k => (ex k).isSome)) → 16 - k < n9 → ∀ (H : Heap) (locs : List Loc) (ls : Array Slot), hm_P D cl_W M H → va_S (hm_A B) s.heap H locs → lv_has ls 3 [(0, .ref (N 0)), (1, .int (nI q9)), (2, .int (nI k))] → W p l e R s m ([.ref (N 0)] : List Value).toArray below meth c H locs (0) (0) (MQ below (hm_Ni B D (fun r M1 => r = nI (ex_n ex) ∧ M1 = M)) ([.ref (N 0)] : List Value).toArray s (0) (0) (hm_A B)) (F0 m 4 ls []) := by
    intro n9
    induction n9 with
    | zero => intro k q9 hk hq9 hm; exact absurd hm (Nat.not_lt_zero _)
    | succ n9 ih4 =>
      intro k q9 hk hq9 hm H locs ls hP hS hl
      have hq8 : q9 ≤ k := by rw [hq9]; exact rg_le
      refine lv_iload_n hx hb dd_RD_countExchanges_4 rfl (lv_at hl 2 rfl) ?_
      refine lv_bipush (v := nI 16) hx hb dd_RD_countExchanges_5 (by decide +kernel) ?_
      refine hn_icmp_ge (tgt := 28) hx hb (by omega) (by omega) dd_RD_countExchanges_7 (by decide) (fun c1 => ?_) (fun c1 => ?_)
      · refine lv_iload_n hx hb dd_RD_countExchanges_28 rfl (lv_at hl 1 rfl) ?_
        exact hm_Ei (v := nI q9) hx hb hr rfl hS hP (⟨by rw [hq9, show k = 16 by omega]; rfl, rfl⟩) hlocks (by omega) (by omega) dd_RD_countExchanges_29
      · refine lv_aload_n hx hb dd_RD_countExchanges_10 rfl (lv_at hl 0 rfl) ?_
        refine hm_get (ci := 0) (C := rn_RD) (T := ft_RD) (N := 6) hx hb hts fi_RD hown hE.K hP hI.o rfl 1 (by decide) (hts _ tw_185) (fun _ h9 => h9) rfl dd_RD_countExchanges_11 ?_
        refine lv_iload_n hx hb dd_RD_countExchanges_14 rfl (lv_at hl 2 rfl) ?_
        refine hm_aald (j := k) hx hb hE.K hP 5 x1 rfl (vp_in_nI (by omega) (by omega)) (nI_clamp (by omega)) dd_RD_countExchanges_15 ?_
        rcases x4 k (by omega) with ⟨g1, g2⟩ | ⟨a, s9, o9, g1, g2, g3, g4, g5⟩
        · rw [g2]
          refine W.eq (g2 := F0 m 16 ls [.null]) rfl ?_
          have c1 : (ex k).isSome = false := by rw [g1]; rfl
          refine lv_ifnullN (tgt := 22) hx hb dd_RD_countExchanges_16 (by decide) ?_
          refine lv_iinc (v := nI (k + 1)) (lv' := [(2, .int (nI (k + 1))), (0, .ref (N 0)), (1, .int (nI q9))]) hx hb dd_RD_countExchanges_22 hl (k := 2) rfl (nI_1 k) (by decide) rfl (fun ls hl => ?_)
          refine lv_goto (tgt := 4) hx hb dd_RD_countExchanges_25 (by decide) ?_
          exact ih4 (k + 1) q9 (by omega) (by rw [rg_step, ← hq9, c1]; rfl) (by omega) _ _ _ hP hS (lv_sub hl [1, 2, 0] rfl)
        · rw [g2]
          refine W.eq (g2 := F0 m 16 ls [.ref a]) rfl ?_
          have c1 : (ex k).isSome = true := by rw [g1]; rfl
          refine lv_ifnull hx hb dd_RD_countExchanges_16 ?_
          refine lv_iinc (v := nI (q9 + 1)) (lv' := [(1, .int (nI (q9 + 1))), (0, .ref (N 0)), (2, .int (nI k))]) hx hb dd_RD_countExchanges_19 hl (k := 1) rfl (nI_1 q9) (by decide) rfl (fun ls hl => ?_)
          refine lv_iinc (v := nI (k + 1)) (lv' := [(2, .int (nI (k + 1))), (1, .int (nI (q9 + 1))), (0, .ref (N 0))]) hx hb dd_RD_countExchanges_22 hl (k := 2) rfl (nI_1 k) (by decide) rfl (fun ls hl => ?_)
          refine lv_goto (tgt := 4) hx hb dd_RD_countExchanges_25 (by decide) ?_
          exact ih4 (k + 1) (q9 + 1) (by omega) (by rw [rg_step, ← hq9, c1]; rfl) (by omega) _ _ _ hP hS (lv_sub hl [2, 1, 0] rfl)
  exact lp4 _ 0 0 (Nat.zero_le _) (rfl) (Nat.lt_succ_self _) _ _ _ hP hS (lv_sub hl [2, 1, 0] rfl)
set_option maxHeartbeats 4000000 in
set_option maxRecDepth 100000 in
theorem kc_RD_countQueues (l : Launch) (B : Nat) (D : va_G) (G : Nat → Nat) (M : hm_M) (N O : Nat → Nat) (hI : im_R D G N O M) (qs : Nat → Bool) (hQ : qu_R B D N O M qs) : Met l yy_RD_countQueues ws_RD_countQueues ({ frames := 0, cells := 0, slots := 0, locals := 0 }) (hm_Pc B D G M [.ref (N 0)]) (hm_Ni B D (fun r M1 => r = nI (qu_n qs) ∧ M1 = M)) (0) (0) (hm_A B) := by
  refine Met.ofW (cc := cd_RD_countQueues) (maxL := 3) (ret := ((some FieldType.int))) (by decide) rfl ?_
  intro p e s m args below meth c s₁ B0 hml hv
  obtain ⟨rfl, hE, hP⟩ := hv
  have hx := B0.exec
  have hb := B0.bytes
  have hr := B0.returns
  have hts : ∀ w ∈ tb_G, w.before _ s = true := fun w h => atoms_spec (ws := ws_RD_countQueues) B0.pre w (List.mem_cons_of_mem _ h)
  have hown : s.vm.findClass "RouteDesk" = some m.cls := findClass_of_methodNamed B0.named
  have hlocks := B0.notSynchronized
  have hRf : (headSpec ws_RD_countQueues { frames := 0, cells := 0, slots := 0, locals := 0 }).room.frames = 0 := rfl
  have hRl : (headSpec ws_RD_countQueues { frames := 0, cells := 0, slots := 0, locals := 0 }).room.locals = 0 := rfl
  have hRc : (headSpec ws_RD_countQueues { frames := 0, cells := 0, slots := 0, locals := 0 }).room.cells = 0 := rfl
  have hRs : (headSpec ws_RD_countQueues { frames := 0, cells := 0, slots := 0, locals := 0 }).room.slots = 0 := rfl
  generalize (headSpec ws_RD_countQueues { frames := 0, cells := 0, slots := 0, locals := 0 }).room = R at hRf hRl hRc hRs ⊢
  have hS : va_S (hm_A B) s.heap s.heap [] := va_S.rf
  have hl := lv_entry ([.ref (N 0)]) (n := 3) (Nat.le_of_ble_eq_true rfl)
  rw [lg_entry_eq]
  generalize (lg_sl ([.ref (N 0)]) ++ List.replicate (3 - (lg_sl ([.ref (N 0)])).length) Slot.unset).toArray = ls at hl ⊢
  have hl : lv_has ls 3 [(0, .ref (N 0))] := hl
  refine lv_iconst (v := nI 0) hx hb dd_RD_countQueues_0 (by decide +kernel) ?_
  refine lv_istore_n (lv' := [(1, .int (nI 0)), (0, .ref (N 0))]) hx hb dd_RD_countQueues_1 rfl hl (by decide) rfl (fun ls hl => ?_)
  refine lv_iconst (v := nI 0) hx hb dd_RD_countQueues_2 (by decide +kernel) ?_
  refine lv_istore_n (lv' := [(2, .int (nI 0)), (1, .int (nI 0)), (0, .ref (N 0))]) hx hb dd_RD_countQueues_3 rfl hl (by decide) rfl (fun ls hl => ?_)
  have lp4 : ∀ (n9 : Nat) (k : Nat) (q9 : Nat), (k ≤ 16) → (q9 = (List.range k).countP (qs)) → 16 - k < n9 → ∀ (H : Heap) (locs : List Loc) (ls : Array Slot), hm_P D cl_W M H → va_S (hm_A B) s.heap H locs → lv_has ls 3 [(0, .ref (N 0)), (1, .int (nI q9)), (2, .int (nI k))] → W p l e R s m ([.ref (N 0)] : List Value).toArray below meth c H locs (0) (0) (MQ below (hm_Ni B D (fun r M1 => r = nI (qu_n qs) ∧ M1 = M)) ([.ref (N 0)] : List Value).toArray s (0) (0) (hm_A B)) (F0 m 4 ls []) := by
    intro n9
    induction n9 with
    | zero => intro k q9 hk hq9 hm; exact absurd hm (Nat.not_lt_zero _)
    | succ n9 ih4 =>
      intro k q9 hk hq9 hm H locs ls hP hS hl
      have hq8 : q9 ≤ k := by rw [hq9]; exact rg_le
      refine lv_iload_n hx hb dd_RD_countQueues_4 rfl (lv_at hl 2 rfl) ?_
      refine lv_bipush (v := nI 16) hx hb dd_RD_countQueues_5 (by decide +kernel) ?_
      refine hn_icmp_ge (tgt := 28) hx hb (by omega) (by omega) dd_RD_countQueues_7 (by decide) (fun c1 => ?_) (fun c1 => ?_)
      · refine lv_iload_n hx hb dd_RD_countQueues_28 rfl (lv_at hl 1 rfl) ?_
        exact hm_Ei (v := nI q9) hx hb hr rfl hS hP (⟨by rw [hq9, show k = 16 by omega]; rfl, rfl⟩) hlocks (by omega) (by omega) dd_RD_countQueues_29
      · refine lv_aload_n hx hb dd_RD_countQueues_10 rfl (lv_at hl 0 rfl) ?_
        refine hm_get (ci := 0) (C := rn_RD) (T := ft_RD) (N := 6) hx hb hts fi_RD hown hE.K hP hI.o rfl 2 (by decide) (hts _ tw_186) (fun _ h9 => h9) rfl dd_RD_countQueues_11 ?_
        refine lv_iload_n hx hb dd_RD_countQueues_14 rfl (lv_at hl 2 rfl) ?_
        refine hm_zald (j := k) hx hb hE.K hP 1 hQ.1 rfl (vp_in_nI (by omega) (by omega)) (nI_clamp (by omega)) dd_RD_countQueues_15 ?_
        refine W.eq (g2 := F0 m 16 ls [.int (nI (bz (qs k)))]) rfl ?_
        refine hn_if_eq (tgt := 22) hx hb (bz_b _) dd_RD_countQueues_16 (by decide) (fun c2 => ?_) (fun c2 => ?_)
        · have c1 := bz_f c2
          refine lv_iinc (v := nI (k + 1)) (lv' := [(2, .int (nI (k + 1))), (0, .ref (N 0)), (1, .int (nI q9))]) hx hb dd_RD_countQueues_22 hl (k := 2) rfl (nI_1 k) (by decide) rfl (fun ls hl => ?_)
          refine lv_goto (tgt := 4) hx hb dd_RD_countQueues_25 (by decide) ?_
          exact ih4 (k + 1) q9 (by omega) (by rw [rg_step, ← hq9, c1]; rfl) (by omega) _ _ _ hP hS (lv_sub hl [1, 2, 0] rfl)
        · have c1 := bz_t c2
          refine lv_iinc (v := nI (q9 + 1)) (lv' := [(1, .int (nI (q9 + 1))), (0, .ref (N 0)), (2, .int (nI k))]) hx hb dd_RD_countQueues_19 hl (k := 1) rfl (nI_1 q9) (by decide) rfl (fun ls hl => ?_)
          refine lv_iinc (v := nI (k + 1)) (lv' := [(2, .int (nI (k + 1))), (1, .int (nI (q9 + 1))), (0, .ref (N 0))]) hx hb dd_RD_countQueues_22 hl (k := 2) rfl (nI_1 k) (by decide) rfl (fun ls hl => ?_)
          refine lv_goto (tgt := 4) hx hb dd_RD_countQueues_25 (by decide) ?_
          exact ih4 (k + 1) (q9 + 1) (by omega) (by rw [rg_step, ← hq9, c1]; rfl) (by omega) _ _ _ hP hS (lv_sub hl [2, 1, 0] rfl)
  exact lp4 _ 0 0 (Nat.zero_le _) (rfl) (Nat.lt_succ_self _) _ _ _ hP hS (lv_sub hl [2, 1, 0] rfl)
set_option maxHeartbeats 4000000 in
set_option maxRecDepth 100000 in
theorem kc_RD_passed (l : Launch) (B : Nat) (D : va_G) (G : Nat → Nat) (M : hm_M) (N O : Nat → Nat) (hI : im_R D G N O M) (ps : Nat → Bool) (od : Nat → Int32) (fo : Nat → Bool) (hR : rt_R B D N O M ps od fo) (x : Int32) : Met l yy_RD_passed ws_RD_passed ({ frames := 0, cells := 0, slots := 0, locals := 0 }) (hm_Pc B D G M [.ref (N 0), .int x]) (hm_Ni B D (fun r M1 => r = nI (bz (qu_at ps x)) ∧ M1 = M)) (0) (0) (hm_A B) := by
  refine Met.ofW (cc := cd_RD_passed) (maxL := 2) (ret := ((some FieldType.boolean))) (by decide) rfl ?_
  intro p e s m args below meth c s₁ B0 hml hv
  obtain ⟨rfl, hE, hP⟩ := hv
  have hx := B0.exec
  have hb := B0.bytes
  have hr := B0.returns
  have hts : ∀ w ∈ tb_G, w.before _ s = true := fun w h => atoms_spec (ws := ws_RD_passed) B0.pre w (List.mem_cons_of_mem _ h)
  have hown : s.vm.findClass "RouteDesk" = some m.cls := findClass_of_methodNamed B0.named
  have hlocks := B0.notSynchronized
  have hRf : (headSpec ws_RD_passed { frames := 0, cells := 0, slots := 0, locals := 0 }).room.frames = 0 := rfl
  have hRl : (headSpec ws_RD_passed { frames := 0, cells := 0, slots := 0, locals := 0 }).room.locals = 0 := rfl
  have hRc : (headSpec ws_RD_passed { frames := 0, cells := 0, slots := 0, locals := 0 }).room.cells = 0 := rfl
  have hRs : (headSpec ws_RD_passed { frames := 0, cells := 0, slots := 0, locals := 0 }).room.slots = 0 := rfl
  generalize (headSpec ws_RD_passed { frames := 0, cells := 0, slots := 0, locals := 0 }).room = R at hRf hRl hRc hRs ⊢
  have hS : va_S (hm_A B) s.heap s.heap [] := va_S.rf
  have hl := lv_entry ([.ref (N 0), .int x]) (n := 2) (Nat.le_of_ble_eq_true rfl)
  rw [lg_entry_eq]
  generalize (lg_sl ([.ref (N 0), .int x]) ++ List.replicate (2 - (lg_sl ([.ref (N 0), .int x])).length) Slot.unset).toArray = ls at hl ⊢
  have hl : lv_has ls 2 [(0, .ref (N 0)), (1, .int x)] := hl
  have t16 : (nI 16).toInt = 16 := by decide
  have tm1 : (-1 : Int32).toInt = -1 := by decide
  have t0 : (nI 0).toInt = 0 := by decide
  have t2 : (nI 2).toInt = 2 := by decide
  have t3 : (nI 3).toInt = 3 := by decide
  obtain ⟨r1, r2, r3, r4, ⟨ro1, ro2, ro3, ro4⟩, ⟨rb1, rb2, rb3, rb4⟩⟩ := id hR
  have rp := qu_le ps
  have rf := qu_le fo
  refine lv_iload_n hx hb dd_RD_passed_0 rfl (lv_at hl 1 rfl) ?_
  refine hi_if_lt (tgt := 26) hx hb dd_RD_passed_1 (by decide) (fun c1 => ?_) (fun c1 => ?_)
  · refine lv_iconst (v := nI 0) hx hb dd_RD_passed_26 (by decide +kernel) ?_
    exact hm_Ei (v := nI 0) hx hb hr rfl hS hP (⟨bz_0 (by rw [qu_at, decide_eq_false (fun h9 => by have := h9.1; have := h9.2; omega), Bool.false_and]), rfl⟩) hlocks (by omega) (by omega) dd_RD_passed_27
  · refine lv_iload_n hx hb dd_RD_passed_4 rfl (lv_at hl 1 rfl) ?_
    refine lv_bipush (v := nI 16) hx hb dd_RD_passed_5 (by decide +kernel) ?_
    refine hi_icmp_ge (tgt := 26) hx hb dd_RD_passed_7 (by decide) (fun c2 => ?_) (fun c2 => ?_)
    · refine lv_iconst (v := nI 0) hx hb dd_RD_passed_26 (by decide +kernel) ?_
      exact hm_Ei (v := nI 0) hx hb hr rfl hS hP (⟨bz_0 (by rw [qu_at, decide_eq_false (fun h9 => by have := h9.1; have := h9.2; omega), Bool.false_and]), rfl⟩) hlocks (by omega) (by omega) dd_RD_passed_27
    · refine lv_aload_n hx hb dd_RD_passed_10 rfl (lv_at hl 0 rfl) ?_
      refine hm_get (ci := 0) (C := rn_RD) (T := ft_RD) (N := 6) hx hb hts fi_RD hown hE.K hP hI.o rfl 5 (by decide) (hts _ tw_189) (fun _ h9 => h9) rfl dd_RD_passed_11 ?_
      refine hm_getN (ci := 5) (C := rn_RT) (T := ft_RT) (N := 5) hx hb hts fi_RT hown hE.K hP r1 rfl 0 (by decide) (va_Nw.use rfl (hE.nest 5 rfl)) (fun _ h9 => h9) rfl dd_RD_passed_14 ?_
      refine lv_iload_n hx hb dd_RD_passed_17 rfl (lv_at hl 1 rfl) ?_
      refine hm_zald (j := x.toInt.toNat) hx hb hE.K hP 1 r2 rfl (hi_in (by omega) (by omega)) hi_clamp dd_RD_passed_18 ?_
      refine W.eq (g2 := F0 m 19 ls [.int (nI (bz (ps x.toInt.toNat)))]) rfl ?_
      refine hn_if_eq (tgt := 26) hx hb (bz_b _) dd_RD_passed_19 (by decide) (fun c3 => ?_) (fun c3 => ?_)
      · have c4 := bz_f c3
        refine lv_iconst (v := nI 0) hx hb dd_RD_passed_26 (by decide +kernel) ?_
        exact hm_Ei (v := nI 0) hx hb hr rfl hS hP (⟨bz_0 (by rw [qu_at, c4, Bool.and_false]), rfl⟩) hlocks (by omega) (by omega) dd_RD_passed_27
      · have c4 := bz_t c3
        refine lv_iconst (v := nI 1) hx hb dd_RD_passed_22 (by decide +kernel) ?_
        refine lv_goto (tgt := 27) hx hb dd_RD_passed_23 (by decide) ?_
        exact hm_Ei (v := nI 1) hx hb hr rfl hS hP (⟨bz_1 (by rw [qu_at, c4, decide_eq_true ⟨by omega, by omega⟩]; rfl), rfl⟩) hlocks (by omega) (by omega) dd_RD_passed_27
set_option maxHeartbeats 4000000 in
set_option maxRecDepth 100000 in
theorem kc_RT_foundAt (l : Launch) (B : Nat) (D : va_G) (G : Nat → Nat) (M : hm_M) (N O : Nat → Nat) (ps : Nat → Bool) (od : Nat → Int32) (fo : Nat → Bool) (hR : rt_R B D N O M ps od fo) (i : Int32) : Met l yy_RT_foundAt ws_RT_foundAt ({ frames := 0, cells := 0, slots := 0, locals := 0 }) (hm_Pc B D G M [.ref (N 7), .int i]) (hm_Ni B D (fun r M1 => r = fo_r fo i ∧ M1 = M)) (0) (0) (hm_A B) := by
  refine Met.ofW (cc := cd_RT_foundAt) (maxL := 4) (ret := ((some FieldType.int))) (by decide) rfl ?_
  intro p e s m args below meth c s₁ B0 hml hv
  obtain ⟨rfl, hE, hP⟩ := hv
  have hx := B0.exec
  have hb := B0.bytes
  have hr := B0.returns
  have hts : ∀ w ∈ tb_G, w.before _ s = true := fun w h => atoms_spec (ws := ws_RT_foundAt) B0.pre w (List.mem_cons_of_mem _ h)
  have hown : s.vm.findClass "RouteDesk$Routing" = some m.cls := findClass_of_methodNamed B0.named
  have hlocks := B0.notSynchronized
  have hRf : (headSpec ws_RT_foundAt { frames := 0, cells := 0, slots := 0, locals := 0 }).room.frames = 0 := rfl
  have hRl : (headSpec ws_RT_foundAt { frames := 0, cells := 0, slots := 0, locals := 0 }).room.locals = 0 := rfl
  have hRc : (headSpec ws_RT_foundAt { frames := 0, cells := 0, slots := 0, locals := 0 }).room.cells = 0 := rfl
  have hRs : (headSpec ws_RT_foundAt { frames := 0, cells := 0, slots := 0, locals := 0 }).room.slots = 0 := rfl
  generalize (headSpec ws_RT_foundAt { frames := 0, cells := 0, slots := 0, locals := 0 }).room = R at hRf hRl hRc hRs ⊢
  have hS : va_S (hm_A B) s.heap s.heap [] := va_S.rf
  have hl := lv_entry ([.ref (N 7), .int i]) (n := 4) (Nat.le_of_ble_eq_true rfl)
  rw [lg_entry_eq]
  generalize (lg_sl ([.ref (N 7), .int i]) ++ List.replicate (4 - (lg_sl ([.ref (N 7), .int i])).length) Slot.unset).toArray = ls at hl ⊢
  have hl : lv_has ls 4 [(0, .ref (N 7)), (1, .int i)] := hl
  obtain ⟨r1, r2, r3, r4, ⟨ro1, ro2, ro3, ro4⟩, ⟨rb1, rb2, rb3, rb4⟩⟩ := id hR
  have rp := qu_le ps
  have rf := qu_le fo
  refine lv_iconst (v := nI 0) hx hb dd_RT_foundAt_0 (by decide +kernel) ?_
  refine lv_istore_n (lv' := [(2, .int (nI 0)), (0, .ref (N 7)), (1, .int i)]) hx hb dd_RT_foundAt_1 rfl hl (by decide) rfl (fun ls hl => ?_)
  refine lv_iconst (v := nI 0) hx hb dd_RT_foundAt_2 (by decide +kernel) ?_
  refine lv_istore_n (lv' := [(3, .int (nI 0)), (2, .int (nI 0)), (0, .ref (N 7)), (1, .int i)]) hx hb dd_RT_foundAt_3 rfl hl (by decide) rfl (fun ls hl => ?_)
  have lp4 : ∀ (n9 : Nat) (k : Nat) (q9 : Nat), (k ≤ 16) → (q9 = ((List.range k).filter fo).length) → (∀ j, j < q9 → ¬ (j : Int) = i.toInt) → 16 - k < n9 → ∀ (H : Heap) (locs : List Loc) (ls : Array Slot), hm_P D cl_W M H → va_S (hm_A B) s.heap H locs → lv_has ls 4 [(0, .ref (N 7)), (1, .int i), (2, .int (nI q9)), (3, .int (nI k))] → W p l e R s m ([.ref (N 7), .int i] : List Value).toArray below meth c H locs (0) (0) (MQ below (hm_Ni B D (fun r M1 => r = fo_r fo i ∧ M1 = M)) ([.ref (N 7), .int i] : List Value).toArray s (0) (0) (hm_A B)) (F0 m 4 ls []) := by
    intro n9
    induction n9 with
    | zero => intro k q9 hk hq9 hne hm; exact absurd hm (Nat.not_lt_zero _)
    | succ n9 ih4 =>
      intro k q9 hk hq9 hne hm H locs ls hP hS hl
      have hq8 : q9 ≤ k := by rw [hq9]; exact fo_le
      refine lv_iload_n hx hb dd_RT_foundAt_4 rfl (lv_at hl 3 rfl) ?_
      refine lv_bipush (v := nI 16) hx hb dd_RT_foundAt_5 (by decide +kernel) ?_
      refine hn_icmp_ge (tgt := 35) hx hb (by omega) (by omega) dd_RT_foundAt_7 (by decide) (fun c1 => ?_) (fun c1 => ?_)
      · refine lv_iconst (v := (-1)) hx hb dd_RT_foundAt_35 (by decide +kernel) ?_
        exact hm_Ei (v := (-1)) hx hb hr rfl hS hP (⟨by
            rw [fo_r]
            by_cases h9 : 0 ≤ i.toInt
            · have hk16 : k = 16 := by omega
              rw [if_pos h9, List.getElem?_eq_none (by
                have h8 : (fo_l fo).length = q9 := by rw [hq9, hk16]; rfl
                rw [h8]
                by_cases h7 : i.toInt.toNat < q9
                · exact absurd (by omega) (hne _ h7)
                · omega)]
            · rw [if_neg h9], rfl⟩) hlocks (by omega) (by omega) dd_RT_foundAt_36
      · refine lv_aload_n hx hb dd_RT_foundAt_10 rfl (lv_at hl 0 rfl) ?_
        refine hm_get (ci := 5) (C := rn_RT) (T := ft_RT) (N := 5) hx hb hts fi_RT hown hE.K hP r1 rfl 3 (by decide) (hts _ tw_169) (fun _ h9 => h9) rfl dd_RT_foundAt_11 ?_
        refine lv_iload_n hx hb dd_RT_foundAt_14 rfl (lv_at hl 3 rfl) ?_
        refine hm_zald (j := k) hx hb hE.K hP 1 r4 rfl (vp_in_nI (by omega) (by omega)) (nI_clamp (by omega)) dd_RT_foundAt_15 ?_
        refine W.eq (g2 := F0 m 16 ls [.int (nI (bz (fo k)))]) rfl ?_
        refine hn_if_eq (tgt := 29) hx hb (bz_b _) dd_RT_foundAt_16 (by decide) (fun c2 => ?_) (fun c2 => ?_)
        · have c1 := bz_f c2
          refine lv_iinc (v := nI (k + 1)) (lv' := [(3, .int (nI (k + 1))), (0, .ref (N 7)), (1, .int i), (2, .int (nI q9))]) hx hb dd_RT_foundAt_29 hl (k := 3) rfl (nI_1 k) (by decide) rfl (fun ls hl => ?_)
          refine lv_goto (tgt := 4) hx hb dd_RT_foundAt_32 (by decide) ?_
          exact ih4 (k + 1) q9 (by omega) (by rw [fo_st, ← hq9, c1]; rfl) (hne) (by omega) _ _ _ hP hS (lv_sub hl [1, 2, 3, 0] rfl)
        · have c1 := bz_t c2
          refine lv_iload_n hx hb dd_RT_foundAt_19 rfl (lv_at hl 2 rfl) ?_
          refine lv_iload_n hx hb dd_RT_foundAt_20 rfl (lv_at hl 1 rfl) ?_
          refine hi_icmp_ne (tgt := 26) hx hb dd_RT_foundAt_21 (by decide) (fun c3 => ?_) (fun c3 => ?_)
          · have c2 := c3
            refine lv_iinc (v := nI (q9 + 1)) (lv' := [(2, .int (nI (q9 + 1))), (0, .ref (N 7)), (1, .int i), (3, .int (nI k))]) hx hb dd_RT_foundAt_26 hl (k := 2) rfl (nI_1 q9) (by decide) rfl (fun ls hl => ?_)
            refine lv_iinc (v := nI (k + 1)) (lv' := [(3, .int (nI (k + 1))), (2, .int (nI (q9 + 1))), (0, .ref (N 7)), (1, .int i)]) hx hb dd_RT_foundAt_29 hl (k := 3) rfl (nI_1 k) (by decide) rfl (fun ls hl => ?_)
            refine lv_goto (tgt := 4) hx hb dd_RT_foundAt_32 (by decide) ?_
            exact ih4 (k + 1) (q9 + 1) (by omega) (by rw [fo_st, ← hq9, c1]; rfl) (fun j hj => by
                by_cases h9 : j = q9
                · subst h9; exact fun h8 => c2 (by rw [nI_toInt (by omega)]; exact h8)
                · exact hne j (by omega)) (by omega) _ _ _ hP hS (lv_sub hl [2, 3, 1, 0] rfl)
          · have c2 : (q9 : Int) = i.toInt := by rw [nI_toInt (by omega)] at c3; omega
            refine lv_iload_n hx hb dd_RT_foundAt_24 rfl (lv_at hl 3 rfl) ?_
            exact hm_Ei (v := nI k) hx hb hr rfl hS hP (⟨by rw [fo_r, if_pos (by omega), ← c2, Int.toNat_natCast, hq9, fo_at (by omega) c1], rfl⟩) hlocks (by omega) (by omega) dd_RT_foundAt_25
  exact lp4 _ 0 0 (Nat.zero_le _) (rfl) (fun j hj => absurd hj (Nat.not_lt_zero _)) (Nat.lt_succ_self _) _ _ _ hP hS (lv_sub hl [2, 3, 1, 0] rfl)
set_option maxHeartbeats 4000000 in
set_option maxRecDepth 100000 in
theorem kc_RD_of (l : Launch) (B : Nat) (D : va_G) (G : Nat → Nat) (M : hm_M) (N O : Nat → Nat) (hI : im_R D G N O M) (ex : Nat → Option (Int32 × Int32)) (hX : ex_R B D N O M ex) (qs : Nat → Bool) (hQ : qu_R B D N O M qs) (bs : List bd_T) (hB : bi_R B D G N O M bs) (x w : Int32) : Met l yy_RD_of ws_RD_of ({ frames := 4, cells := 0, slots := 0, locals := 88 }) (hm_Pc B D G M [.ref (N 0), .int x, .int w]) (hm_Ni B D (fun r M1 => r = of_r ex qs bs x w ∧ M1 = M)) (0) (0) (hm_A B) := by
  refine Met.ofW (cc := cd_RD_of) (maxL := 4) (ret := ((some FieldType.int))) (by decide) rfl ?_
  intro p e s m args below meth c s₁ B0 hml hv
  obtain ⟨rfl, hE, hP⟩ := hv
  have hx := B0.exec
  have hb := B0.bytes
  have hr := B0.returns
  have hts : ∀ w ∈ tb_G, w.before _ s = true := fun w h => atoms_spec (ws := ws_RD_of) B0.pre w (List.mem_cons_of_mem _ h)
  have hown : s.vm.findClass "RouteDesk" = some m.cls := findClass_of_methodNamed B0.named
  have hlocks := B0.notSynchronized
  have hRf : (headSpec ws_RD_of { frames := 4, cells := 0, slots := 0, locals := 88 }).room.frames = 4 := rfl
  have hRl : (headSpec ws_RD_of { frames := 4, cells := 0, slots := 0, locals := 88 }).room.locals = 88 := rfl
  have hRc : (headSpec ws_RD_of { frames := 4, cells := 0, slots := 0, locals := 88 }).room.cells = 0 := rfl
  have hRs : (headSpec ws_RD_of { frames := 4, cells := 0, slots := 0, locals := 88 }).room.slots = 0 := rfl
  generalize (headSpec ws_RD_of { frames := 4, cells := 0, slots := 0, locals := 88 }).room = R at hRf hRl hRc hRs ⊢
  have hS : va_S (hm_A B) s.heap s.heap [] := va_S.rf
  have hl := lv_entry ([.ref (N 0), .int x, .int w]) (n := 4) (Nat.le_of_ble_eq_true rfl)
  rw [lg_entry_eq]
  generalize (lg_sl ([.ref (N 0), .int x, .int w]) ++ List.replicate (4 - (lg_sl ([.ref (N 0), .int x, .int w])).length) Slot.unset).toArray = ls at hl ⊢
  have hl : lv_has ls 4 [(0, .ref (N 0)), (1, .int x), (2, .int w)] := hl
  have t16 : (nI 16).toInt = 16 := by decide
  have tm1 : (-1 : Int32).toInt = -1 := by decide
  have t0 : (nI 0).toInt = 0 := by decide
  have t2 : (nI 2).toInt = 2 := by decide
  have t3 : (nI 3).toInt = 3 := by decide
  obtain ⟨f, x1, x2, x3, x4⟩ := id hX
  obtain ⟨-, -, -, -, -, -, -, -, b7⟩ := id hB
  refine lv_iload_n hx hb dd_RD_of_0 rfl (lv_at hl 2 rfl) ?_
  refine lv_iconst (v := nI 2) hx hb dd_RD_of_1 (by decide +kernel) ?_
  refine hi_icmp_ne (tgt := 25) hx hb dd_RD_of_2 (by decide) (fun c1 => ?_) (fun c1 => ?_)
  · refine lv_aload_n hx hb dd_RD_of_25 rfl (lv_at hl 0 rfl) ?_
    refine lv_iload_n hx hb dd_RD_of_26 rfl (lv_at hl 1 rfl) ?_
    refine hm_cq hS (hm_rV 1 (As := [.int x]) (rest := []) ⟨hx, hb, hml, hown, hts⟩ hE hS hP (kc_RD_exchangeAt l B D G M N O hI ex f ⟨x1, x2, x3, x4⟩ x) rfl hI.o tw_319 tw_316 tw_318 tw_0 tw_36 (by decide +kernel) rfl rfl ⟨by show 0 + 1 ≤ R.frames; omega, by show 8 + (2 + 11) + 0 ≤ R.locals; omega⟩ rfl hl.1 rfl (Nat.le_of_ble_eq_true rfl) dd_RD_of_27 ⟨by omega, by omega⟩) (fun r2 M3 H locs hw4 hP hS => ?_)
    refine W.widen (k := 0) (n := 0) (by omega) (by omega) ?_
    obtain ⟨eM3, qM3⟩ := hw4
    rw [eM3] at hP
    rcases qM3 with ⟨he, rfl⟩ | ⟨a, s9, o9, he, rfl, he2, he3, he4, he5, he6⟩
    · refine lv_astore_nN (lv' := [(3, .null), (0, .ref (N 0)), (1, .int x), (2, .int w)]) hx hb dd_RD_of_30 rfl hl (by decide) rfl (fun ls hl => ?_)
      refine lv_aload_nN hx hb dd_RD_of_31 rfl (lv_at hl 0 rfl) ?_
      refine lv_ifnonnullN hx hb dd_RD_of_32 ?_
      refine lv_iconst (v := (-1)) hx hb dd_RD_of_35 (by decide +kernel) ?_
      exact hm_Ei (v := (-1)) hx hb hr rfl hS hP (⟨by rw [of_r, if_neg (by omega), he], rfl⟩) hlocks (by omega) (by omega) dd_RD_of_36
    · refine lv_astore_n (lv' := [(3, .ref a), (0, .ref (N 0)), (1, .int x), (2, .int w)]) hx hb dd_RD_of_30 rfl hl (by decide) rfl (fun ls hl => ?_)
      refine lv_aload_n hx hb dd_RD_of_31 rfl (lv_at hl 0 rfl) ?_
      refine lv_ifnonnull (tgt := 37) hx hb dd_RD_of_32 (by decide) ?_
      refine lv_iload_n hx hb dd_RD_of_37 rfl (lv_at hl 3 rfl) ?_
      rcases (show w.toInt = 0 ∨ w.toInt = 1 ∨ w.toInt = 2 ∨ w.toInt = 3 ∨ w.toInt = 4 ∨ (w.toInt < 0 ∨ 4 < w.toInt) from by omega) with sw5 | sw5 | sw5 | sw5 | sw5 | sw5
      · refine lv_tableIn (off := 34) (tgt := 72) hx hb dd_RD_of_38 (by omega) (by omega) (by rw [sw5]; rfl) (by decide) ?_
        refine lv_aload_n hx hb dd_RD_of_72 rfl (lv_at hl 1 rfl) ?_
        refine lv_iload_n hx hb dd_RD_of_73 rfl (lv_at hl 2 rfl) ?_
        refine hm_ci hS (hm_rV 1 (As := [.int x]) (rest := []) ⟨hx, hb, hml, hown, hts⟩ hE hS hP (kc_RD_countFrom l B D G M N O hI bs hB x) rfl hI.o tw_760 tw_757 tw_759 tw_11 tw_36 (by decide +kernel) rfl rfl ⟨by show 3 + 1 ≤ R.frames; omega, by show 8 + (4 + 11) + 64 ≤ R.locals; omega⟩ rfl hl.1 rfl (Nat.le_of_ble_eq_true rfl) dd_RD_of_74 ⟨by omega, by omega⟩) (fun r6 M7 H locs hw8 hP hS => ?_)
        refine W.widen (k := 0) (n := 0) (by omega) (by omega) ?_
        obtain ⟨rfl, eM7⟩ := hw8
        rw [eM7] at hP
        exact hm_Ei (v := nI (bs.countP (bd_fr x))) hx hb hr rfl hS hP (⟨by rw [of_r, if_neg (by omega), he]; exact (if_pos (by omega)).symm, rfl⟩) hlocks (by omega) (by omega) dd_RD_of_77
      · refine lv_tableIn (off := 40) (tgt := 78) hx hb dd_RD_of_38 (by omega) (by omega) (by rw [sw5]; rfl) (by decide) ?_
        refine lv_aload_n hx hb dd_RD_of_78 rfl (lv_at hl 1 rfl) ?_
        refine lv_iload_n hx hb dd_RD_of_79 rfl (lv_at hl 2 rfl) ?_
        refine lv_iconst (v := nI 0) hx hb dd_RD_of_80 (by decide +kernel) ?_
        refine hm_ci hS (hm_rV 2 (As := [.int x, .int (nI 0)]) (rest := []) ⟨hx, hb, hml, hown, hts⟩ hE hS hP (kc_RD_countTo l B D G M N O hI bs hB x false) rfl hI.o tw_756 tw_753 tw_755 tw_10 tw_36 (by decide +kernel) rfl rfl ⟨by show 3 + 1 ≤ R.frames; omega, by show 8 + (5 + 11) + 64 ≤ R.locals; omega⟩ rfl hl.1 rfl (Nat.le_of_ble_eq_true rfl) dd_RD_of_81 ⟨by omega, by omega⟩) (fun r9 M10 H locs hw11 hP hS => ?_)
        refine W.widen (k := 0) (n := 0) (by omega) (by omega) ?_
        obtain ⟨rfl, eM10⟩ := hw11
        rw [eM10] at hP
        exact hm_Ei (v := nI (bs.countP (bd_to x false))) hx hb hr rfl hS hP (⟨by rw [of_r, if_neg (by omega), he]; show _ = if _ then _ else _; rw [if_neg (by omega), if_pos (by omega)], rfl⟩) hlocks (by omega) (by omega) dd_RD_of_84
      · exact absurd sw5 (by omega)
      · refine lv_tableIn (off := 47) (tgt := 85) hx hb dd_RD_of_38 (by omega) (by omega) (by rw [sw5]; rfl) (by decide) ?_
        refine lv_aload_n hx hb dd_RD_of_85 rfl (lv_at hl 0 rfl) ?_
        refine hm_getN (ci := 2) (C := rn_EX) (T := ft_EX) (N := 2) hx hb hts fi_EX hown hE.K hP he2 rfl 0 (by decide) (va_Nw.use rfl (hE.nest 15 rfl)) (fun _ h9 => h9) rfl dd_RD_of_86 ?_
        exact hm_Ei (v := s9) hx hb hr rfl hS hP (⟨by rw [of_r, if_neg (by omega), he]; show _ = if _ then _ else _; rw [if_neg (by omega), if_neg (by omega), if_pos (by omega)], rfl⟩) hlocks (by omega) (by omega) dd_RD_of_89
      · refine lv_tableIn (off := 52) (tgt := 90) hx hb dd_RD_of_38 (by omega) (by omega) (by rw [sw5]; rfl) (by decide) ?_
        refine lv_aload_n hx hb dd_RD_of_90 rfl (lv_at hl 0 rfl) ?_
        refine hm_getN (ci := 2) (C := rn_EX) (T := ft_EX) (N := 2) hx hb hts fi_EX hown hE.K hP he2 rfl 1 (by decide) (va_Nw.use rfl (hE.nest 16 rfl)) (fun _ h9 => h9) rfl dd_RD_of_91 ?_
        exact hm_Ei (v := o9) hx hb hr rfl hS hP (⟨by rw [of_r, if_neg (by omega), he]; show _ = if _ then _ else _; rw [if_neg (by omega), if_neg (by omega), if_neg (by omega), if_pos (by omega)], rfl⟩) hlocks (by omega) (by omega) dd_RD_of_94
      · refine lv_tableOut (tgt := 95) hx hb dd_RD_of_38 sw5 (by decide) ?_
        refine lv_iconst (v := (-1)) hx hb dd_RD_of_95 (by decide +kernel) ?_
        exact hm_Ei (v := (-1)) hx hb hr rfl hS hP (⟨by rw [of_r, if_neg (by omega), he]; show _ = if _ then _ else _; rw [if_neg (by omega), if_neg (by omega), if_neg (by omega), if_neg (by omega)], rfl⟩) hlocks (by omega) (by omega) dd_RD_of_96
  · refine lv_aload_n hx hb dd_RD_of_5 rfl (lv_at hl 0 rfl) ?_
    refine lv_iload_n hx hb dd_RD_of_6 rfl (lv_at hl 1 rfl) ?_
    refine lv_iconst (v := nI 1) hx hb dd_RD_of_7 (by decide +kernel) ?_
    refine hm_ci hS (hm_rV 2 (As := [.int x, .int (nI 1)]) (rest := []) ⟨hx, hb, hml, hown, hts⟩ hE hS hP (kc_RD_isThere l B D G M N O hI ex hX qs hQ x true) rfl hI.o tw_327 tw_324 tw_326 tw_1 tw_36 (by decide +kernel) rfl rfl ⟨by show 1 + 1 ≤ R.frames; omega, by show 8 + (3 + 11) + 21 ≤ R.locals; omega⟩ rfl hl.1 rfl (Nat.le_of_ble_eq_true rfl) dd_RD_of_8 ⟨by omega, by omega⟩) (fun r12 M13 H locs hw14 hP hS => ?_)
    refine W.widen (k := 0) (n := 0) (by omega) (by omega) ?_
    obtain ⟨rfl, eM13⟩ := hw14
    rw [eM13] at hP
    refine hn_if_eq (tgt := 23) hx hb (bz_b _) dd_RD_of_11 (by decide) (fun c15 => ?_) (fun c15 => ?_)
    · have c3 : qu_at qs x = false := bz_f c15
      refine lv_iconst (v := (-1)) hx hb dd_RD_of_23 (by decide +kernel) ?_
      exact hm_Ei (v := (-1)) hx hb hr rfl hS hP (⟨by rw [of_r, if_pos (by omega), c3, if_neg (by decide)], rfl⟩) hlocks (by omega) (by omega) dd_RD_of_24
    · have c3 : qu_at qs x = true := bz_t c15
      refine lv_aload_n hx hb dd_RD_of_14 rfl (lv_at hl 0 rfl) ?_
      refine lv_iload_n hx hb dd_RD_of_15 rfl (lv_at hl 1 rfl) ?_
      refine lv_iconst (v := nI 1) hx hb dd_RD_of_16 (by decide +kernel) ?_
      refine hm_ci hS (hm_rV 2 (As := [.int x, .int (nI 1)]) (rest := []) ⟨hx, hb, hml, hown, hts⟩ hE hS hP (kc_RD_countTo l B D G M N O hI bs hB x true) rfl hI.o tw_756 tw_753 tw_755 tw_10 tw_36 (by decide +kernel) rfl rfl ⟨by show 3 + 1 ≤ R.frames; omega, by show 8 + (5 + 11) + 64 ≤ R.locals; omega⟩ rfl hl.1 rfl (Nat.le_of_ble_eq_true rfl) dd_RD_of_17 ⟨by omega, by omega⟩) (fun r16 M17 H locs hw18 hP hS => ?_)
      refine W.widen (k := 0) (n := 0) (by omega) (by omega) ?_
      obtain ⟨rfl, eM17⟩ := hw18
      rw [eM17] at hP
      refine lv_goto (tgt := 24) hx hb dd_RD_of_20 (by decide) ?_
      exact hm_Ei (v := nI (bs.countP (bd_to x true))) hx hb hr rfl hS hP (⟨by rw [of_r, if_pos (by omega), c3, if_pos rfl], rfl⟩) hlocks (by omega) (by omega) dd_RD_of_24
set_option maxHeartbeats 4000000 in
set_option maxRecDepth 100000 in
theorem kc_RD_total (l : Launch) (B : Nat) (D : va_G) (G : Nat → Nat) (M : hm_M) (N O : Nat → Nat) (hI : im_R D G N O M) (ex : Nat → Option (Int32 × Int32)) (hX : ex_R B D N O M ex) (qs : Nat → Bool) (hQ : qu_R B D N O M qs) (bs : List bd_T) (hB : bi_R B D G N O M bs) (key : List Nat) (hs : List (List Nat × List Nat)) (hM : ms_R B D G N O M key hs) (w : Int32) : Met l yy_RD_total ws_RD_total ({ frames := 2, cells := 0, slots := 0, locals := 40 }) (hm_Pc B D G M [.ref (N 0), .int w]) (hm_Ni B D (fun r M1 => r = tt_r ex qs bs.length hs.length key.length w ∧ M1 = M)) (0) (0) (hm_A B) := by
  refine Met.ofW (cc := cd_RD_total) (maxL := 2) (ret := ((some FieldType.int))) (by decide) rfl ?_
  intro p e s m args below meth c s₁ B0 hml hv
  obtain ⟨rfl, hE, hP⟩ := hv
  have hx := B0.exec
  have hb := B0.bytes
  have hr := B0.returns
  have hts : ∀ w ∈ tb_G, w.before _ s = true := fun w h => atoms_spec (ws := ws_RD_total) B0.pre w (List.mem_cons_of_mem _ h)
  have hown : s.vm.findClass "RouteDesk" = some m.cls := findClass_of_methodNamed B0.named
  have hlocks := B0.notSynchronized
  have hRf : (headSpec ws_RD_total { frames := 2, cells := 0, slots := 0, locals := 40 }).room.frames = 2 := rfl
  have hRl : (headSpec ws_RD_total { frames := 2, cells := 0, slots := 0, locals := 40 }).room.locals = 40 := rfl
  have hRc : (headSpec ws_RD_total { frames := 2, cells := 0, slots := 0, locals := 40 }).room.cells = 0 := rfl
  have hRs : (headSpec ws_RD_total { frames := 2, cells := 0, slots := 0, locals := 40 }).room.slots = 0 := rfl
  generalize (headSpec ws_RD_total { frames := 2, cells := 0, slots := 0, locals := 40 }).room = R at hRf hRl hRc hRs ⊢
  have hS : va_S (hm_A B) s.heap s.heap [] := va_S.rf
  have hl := lv_entry ([.ref (N 0), .int w]) (n := 2) (Nat.le_of_ble_eq_true rfl)
  rw [lg_entry_eq]
  generalize (lg_sl ([.ref (N 0), .int w]) ++ List.replicate (2 - (lg_sl ([.ref (N 0), .int w])).length) Slot.unset).toArray = ls at hl ⊢
  have hl : lv_has ls 2 [(0, .ref (N 0)), (1, .int w)] := hl
  have t16 : (nI 16).toInt = 16 := by decide
  have tm1 : (-1 : Int32).toInt = -1 := by decide
  have t0 : (nI 0).toInt = 0 := by decide
  have t2 : (nI 2).toInt = 2 := by decide
  have t3 : (nI 3).toInt = 3 := by decide
  obtain ⟨f, x1, x2, x3, x4⟩ := id hX
  obtain ⟨d, xs, b1, b2, b3, b4, b5, b6, b7⟩ := id hB
  obtain ⟨n4, f4, mo4, bb1, bb2, bb3⟩ := id b1
  obtain ⟨kk, d5, xs5, m1, m2, m3, m4, l1, l2, l3, l4, l5, l6, l7⟩ := id hM
  obtain ⟨n6, f6, mo6, ll1, ll2, ll3⟩ := id l1
  obtain ⟨vkk, hkk⟩ := tx_o (cz_tx m4)
  refine lv_iload_n hx hb dd_RD_total_0 rfl (lv_at hl 1 rfl) ?_
  rcases (show w.toInt = 0 ∨ w.toInt = 1 ∨ w.toInt = 2 ∨ w.toInt = 3 ∨ w.toInt = 4 ∨ (w.toInt < 0 ∨ 4 < w.toInt) from by omega) with sw1 | sw1 | sw1 | sw1 | sw1 | sw1
  · refine lv_tableIn (off := 35) (tgt := 36) hx hb dd_RD_total_1 (by omega) (by omega) (by rw [sw1]; rfl) (by decide) ?_
    refine lv_aload_n hx hb dd_RD_total_36 rfl (lv_at hl 0 rfl) ?_
    refine hm_ci hS (hm_rV 0 (As := []) (rest := []) ⟨hx, hb, hml, hown, hts⟩ hE hS hP (kc_RD_countExchanges l B D G M N O hI ex hX) rfl hI.o tw_768 tw_765 tw_767 tw_12 tw_36 (by decide +kernel) rfl rfl ⟨by show 0 + 1 ≤ R.frames; omega, by show 8 + (3 + 11) + 0 ≤ R.locals; omega⟩ rfl hl.1 rfl (Nat.le_of_ble_eq_true rfl) dd_RD_total_37 ⟨by omega, by omega⟩) (fun r2 M3 H locs hw4 hP hS => ?_)
    refine W.widen (k := 0) (n := 0) (by omega) (by omega) ?_
    obtain ⟨rfl, eM3⟩ := hw4
    rw [eM3] at hP
    exact hm_Ei (v := nI (ex_n ex)) hx hb hr rfl hS hP (⟨by rw [tt_r, if_pos (by omega)], rfl⟩) hlocks (by omega) (by omega) dd_RD_total_40
  · refine lv_tableIn (off := 40) (tgt := 41) hx hb dd_RD_total_1 (by omega) (by omega) (by rw [sw1]; rfl) (by decide) ?_
    refine lv_aload_n hx hb dd_RD_total_41 rfl (lv_at hl 0 rfl) ?_
    refine hm_ci hS (hm_rV 0 (As := []) (rest := []) ⟨hx, hb, hml, hown, hts⟩ hE hS hP (kc_RD_countQueues l B D G M N O hI qs hQ) rfl hI.o tw_772 tw_769 tw_771 tw_13 tw_36 (by decide +kernel) rfl rfl ⟨by show 0 + 1 ≤ R.frames; omega, by show 8 + (3 + 11) + 0 ≤ R.locals; omega⟩ rfl hl.1 rfl (Nat.le_of_ble_eq_true rfl) dd_RD_total_42 ⟨by omega, by omega⟩) (fun r5 M6 H locs hw7 hP hS => ?_)
    refine W.widen (k := 0) (n := 0) (by omega) (by omega) ?_
    obtain ⟨rfl, eM6⟩ := hw7
    rw [eM6] at hP
    exact hm_Ei (v := nI (qu_n qs)) hx hb hr rfl hS hP (⟨by rw [tt_r, if_neg (by omega), if_pos (by omega)], rfl⟩) hlocks (by omega) (by omega) dd_RD_total_45
  · refine lv_tableIn (off := 45) (tgt := 46) hx hb dd_RD_total_1 (by omega) (by omega) (by rw [sw1]; rfl) (by decide) ?_
    refine lv_aload_n hx hb dd_RD_total_46 rfl (lv_at hl 0 rfl) ?_
    refine hm_get (ci := 0) (C := rn_RD) (T := ft_RD) (N := 6) hx hb hts fi_RD hown hE.K hP hI.o rfl 3 (by decide) (hts _ tw_187) (fun _ h9 => h9) rfl dd_RD_total_47 ?_
    refine hm_ci hS (hm_rV 0 (As := []) (rest := []) ⟨hx, hb, hml, hown, hts⟩ hE hS hP (kc_AL_size l B D G M 1 (N 4) xs b1.L) rfl bb1 tw_331 tw_328 tw_329 tw_330 tw_43 (by decide +kernel) rfl rfl ⟨by show 0 + 1 ≤ R.frames; omega, by show 8 + (1 + 11) + 0 ≤ R.locals; omega⟩ rfl hl.1 rfl (Nat.le_of_ble_eq_true rfl) dd_RD_total_50 ⟨by omega, by omega⟩) (fun r8 M9 H locs hw10 hP hS => ?_)
    refine W.widen (k := 0) (n := 0) (by omega) (by omega) ?_
    obtain ⟨rfl, eM9⟩ := hw10
    rw [eM9] at hP
    exact hm_Ei (v := nI xs.length) hx hb hr rfl hS hP (⟨by rw [tt_r, if_neg (by omega), if_neg (by omega), if_pos (by omega), b5], rfl⟩) hlocks (by omega) (by omega) dd_RD_total_53
  · refine lv_tableIn (off := 53) (tgt := 54) hx hb dd_RD_total_1 (by omega) (by omega) (by rw [sw1]; rfl) (by decide) ?_
    refine lv_aload_n hx hb dd_RD_total_54 rfl (lv_at hl 0 rfl) ?_
    refine hm_get (ci := 0) (C := rn_RD) (T := ft_RD) (N := 6) hx hb hts fi_RD hown hE.K hP hI.o rfl 4 (by decide) (hts _ tw_188) (fun _ h9 => h9) rfl dd_RD_total_55 ?_
    refine hm_getN (ci := 4) (C := rn_MG) (T := ft_MG) (N := 2) hx hb hts fi_MG hown hE.K hP m1 rfl 1 (by decide) (va_Nw.use rfl (hE.nest 3 rfl)) (fun _ h9 => h9) rfl dd_RD_total_58 ?_
    refine hm_ci hS (hm_rV 0 (As := []) (rest := []) ⟨hx, hb, hml, hown, hts⟩ hE hS hP (kc_AL_size l B D G M 3 (N 6) xs5 l1.L) rfl ll1 tw_331 tw_328 tw_329 tw_330 tw_43 (by decide +kernel) rfl rfl ⟨by show 0 + 1 ≤ R.frames; omega, by show 8 + (1 + 11) + 0 ≤ R.locals; omega⟩ rfl hl.1 rfl (Nat.le_of_ble_eq_true rfl) dd_RD_total_61 ⟨by omega, by omega⟩) (fun r11 M12 H locs hw13 hP hS => ?_)
    refine W.widen (k := 0) (n := 0) (by omega) (by omega) ?_
    obtain ⟨rfl, eM12⟩ := hw13
    rw [eM12] at hP
    exact hm_Ei (v := nI xs5.length) hx hb hr rfl hS hP (⟨by rw [tt_r, if_neg (by omega), if_neg (by omega), if_neg (by omega), if_pos (by omega), l5], rfl⟩) hlocks (by omega) (by omega) dd_RD_total_64
  · refine lv_tableIn (off := 64) (tgt := 65) hx hb dd_RD_total_1 (by omega) (by omega) (by rw [sw1]; rfl) (by decide) ?_
    refine lv_aload_n hx hb dd_RD_total_65 rfl (lv_at hl 0 rfl) ?_
    refine hm_get (ci := 0) (C := rn_RD) (T := ft_RD) (N := 6) hx hb hts fi_RD hown hE.K hP hI.o rfl 4 (by decide) (hts _ tw_188) (fun _ h9 => h9) rfl dd_RD_total_66 ?_
    refine hm_getN (ci := 4) (C := rn_MG) (T := ft_MG) (N := 2) hx hb hts fi_MG hown hE.K hP m1 rfl 0 (by decide) (va_Nw.use rfl (hE.nest 1 rfl)) (fun _ h9 => h9) rfl dd_RD_total_69 ?_
    refine hm_ci hS (hm_rV 0 (As := []) (rest := []) ⟨hx, hb, hml, hown, hts⟩ hE hS hP (kc_ST_length l B D G M kk key (cz_tx m4)) rfl hkk tw_490 tw_612 tw_488 tw_489 tw_39 (by decide +kernel) rfl rfl ⟨by show 1 + 1 ≤ R.frames; omega, by show 8 + (1 + 11) + 20 ≤ R.locals; omega⟩ rfl hl.1 rfl (Nat.le_of_ble_eq_true rfl) dd_RD_total_72 ⟨by omega, by omega⟩) (fun r14 M15 H locs hw16 hP hS => ?_)
    refine W.widen (k := 0) (n := 0) (by omega) (by omega) ?_
    obtain ⟨rfl, eM15⟩ := hw16
    rw [eM15] at hP
    exact hm_Ei (v := nI key.length) hx hb hr rfl hS hP (⟨by rw [tt_r, if_neg (by omega), if_neg (by omega), if_neg (by omega), if_neg (by omega), if_pos (by omega)], rfl⟩) hlocks (by omega) (by omega) dd_RD_total_75
  · refine lv_tableOut (tgt := 76) hx hb dd_RD_total_1 sw1 (by decide) ?_
    refine lv_iconst (v := (-1)) hx hb dd_RD_total_76 (by decide +kernel) ?_
    exact hm_Ei (v := (-1)) hx hb hr rfl hS hP (⟨by rw [tt_r, if_neg (by omega), if_neg (by omega), if_neg (by omega), if_neg (by omega), if_neg (by omega)], rfl⟩) hlocks (by omega) (by omega) dd_RD_total_77
set_option maxHeartbeats 4000000 in
set_option maxRecDepth 100000 in
theorem kc_RD_isTextFor (l : Launch) (B : Nat) (D : va_G) (G : Nat → Nat) (M : hm_M) (O N : Nat → Nat) (hI : im_R D G N O M) (s9 : Int32) (hs9 : 0 ≤ s9.toInt ∧ s9.toInt ≤ 3) (a : Nat) (t : List Nat) (ht : tx_S D M a t) : Met l yy_RD_isTextFor ws_RD_isTextFor ({ frames := 7, cells := 0, slots := 0, locals := 155 }) (hm_Pc B D G M [.int s9, .ref a]) (hm_Ni B D (fun r M1 => r = nI (bz (tx_for s9 t)) ∧ M1 = M)) (0) (0) (hm_A B) := by
  refine Met.ofW (cc := cd_RD_isTextFor) (maxL := 2) (ret := ((some FieldType.boolean))) (by decide) rfl ?_
  intro p e s m args below meth c s₁ B0 hml hv
  obtain ⟨rfl, hE, hP⟩ := hv
  have hx := B0.exec
  have hb := B0.bytes
  have hr := B0.returns
  have hts : ∀ w ∈ tb_G, w.before _ s = true := fun w h => atoms_spec (ws := ws_RD_isTextFor) B0.pre w (List.mem_cons_of_mem _ h)
  have hown : s.vm.findClass "RouteDesk" = some m.cls := findClass_of_methodNamed B0.named
  have hlocks := B0.notSynchronized
  have hRf : (headSpec ws_RD_isTextFor { frames := 7, cells := 0, slots := 0, locals := 155 }).room.frames = 7 := rfl
  have hRl : (headSpec ws_RD_isTextFor { frames := 7, cells := 0, slots := 0, locals := 155 }).room.locals = 155 := rfl
  have hRc : (headSpec ws_RD_isTextFor { frames := 7, cells := 0, slots := 0, locals := 155 }).room.cells = 0 := rfl
  have hRs : (headSpec ws_RD_isTextFor { frames := 7, cells := 0, slots := 0, locals := 155 }).room.slots = 0 := rfl
  generalize (headSpec ws_RD_isTextFor { frames := 7, cells := 0, slots := 0, locals := 155 }).room = R at hRf hRl hRc hRs ⊢
  have hS : va_S (hm_A B) s.heap s.heap [] := va_S.rf
  have hl := lv_entry ([.int s9, .ref a]) (n := 2) (Nat.le_of_ble_eq_true rfl)
  rw [lg_entry_eq]
  generalize (lg_sl ([.int s9, .ref a]) ++ List.replicate (2 - (lg_sl ([.int s9, .ref a])).length) Slot.unset).toArray = ls at hl ⊢
  have hl : lv_has ls 2 [(0, .int s9), (1, .ref a)] := hl
  obtain ⟨va, hao⟩ := tx_o ht
  refine lv_iload_n hx hb dd_RD_isTextFor_0 rfl (lv_at hl 0 rfl) ?_
  rcases (show s9.toInt = 0 ∨ s9.toInt = 1 ∨ s9.toInt = 2 ∨ (s9.toInt < 0 ∨ 2 < s9.toInt) from by omega) with sw1 | sw1 | sw1 | sw1
  · refine lv_tableIn (off := 27) (tgt := 28) hx hb dd_RD_isTextFor_1 (by omega) (by omega) (by rw [sw1]; rfl) (by decide) ?_
    refine lv_iconst (v := nI 1) hx hb dd_RD_isTextFor_28 (by decide +kernel) ?_
    exact hm_Ei (v := nI 1) hx hb hr rfl hS hP (⟨by rw [tx_for, if_pos (by omega)]; rfl, rfl⟩) hlocks (by omega) (by omega) dd_RD_isTextFor_29
  · refine lv_tableIn (off := 29) (tgt := 30) hx hb dd_RD_isTextFor_1 (by omega) (by omega) (by rw [sw1]; rfl) (by decide) ?_
    refine lv_aload_n hx hb dd_RD_isTextFor_30 rfl (lv_at hl 1 rfl) ?_
    refine hm_ci hS (hm_rV 0 (As := []) (rest := []) ⟨hx, hb, hml, hown, hts⟩ hE hS hP (kc_ST_isEmpty l B D G M a t ht) rfl hao tw_837 tw_834 tw_835 tw_836 tw_39 (by decide +kernel) rfl rfl ⟨by show 0 + 1 ≤ R.frames; omega, by show 8 + (1 + 11) + 0 ≤ R.locals; omega⟩ rfl hl.1 rfl (Nat.le_of_ble_eq_true rfl) dd_RD_isTextFor_31 ⟨by omega, by omega⟩) (fun r2 M3 H locs hw4 hP hS => ?_)
    refine W.widen (k := 0) (n := 0) (by omega) (by omega) ?_
    obtain ⟨rfl, eM3⟩ := hw4
    rw [eM3] at hP
    exact hm_Ei (v := nI (if t = [] then 1 else 0)) hx hb hr (hi_bool _ _) hS hP (⟨by rw [show tx_for s9 t = decide (t = []) by rw [tx_for, if_neg (by omega), if_pos (by omega)]]; exact bz_if _, rfl⟩) hlocks (by omega) (by omega) dd_RD_isTextFor_34
  · refine lv_tableIn (off := 34) (tgt := 35) hx hb dd_RD_isTextFor_1 (by omega) (by omega) (by rw [sw1]; rfl) (by decide) ?_
    refine lv_aload_n hx hb dd_RD_isTextFor_35 rfl (lv_at hl 1 rfl) ?_
    refine hm_ci hS (hm_rS 1 (As := [.ref a]) (rest := []) ⟨hx, hb, hml, hown, hts⟩ hE hS hP (kc_PT_isPattern l B D G M a t ht) tw_840 tw_838 tw_839 tw_61 (by decide +kernel) rfl rfl ⟨by show 6 + 1 ≤ R.frames; omega, by show 8 + (3 + 11) + 131 ≤ R.locals; omega⟩ rfl hl.1 rfl (Nat.le_of_ble_eq_true rfl) dd_RD_isTextFor_36 ⟨by omega, by omega⟩) (fun r5 M6 H locs hw7 hP hS => ?_)
    refine W.widen (k := 0) (n := 0) (by omega) (by omega) ?_
    obtain ⟨rfl, eM6⟩ := hw7
    rw [eM6] at hP
    exact hm_Ei (v := nI (bz ((wd_sp 46 t).all pt_ok))) hx hb hr (bz_n _) hS hP (⟨by rw [tx_for, if_neg (by omega), if_neg (by omega), if_pos (by omega)], rfl⟩) hlocks (by omega) (by omega) dd_RD_isTextFor_39
  · refine lv_tableOut (tgt := 40) hx hb dd_RD_isTextFor_1 sw1 (by decide) ?_
    refine lv_aload_n hx hb dd_RD_isTextFor_40 rfl (lv_at hl 1 rfl) ?_
    refine hm_ci hS (hm_rS 1 (As := [.ref a]) (rest := []) ⟨hx, hb, hml, hown, hts⟩ hE hS hP (kc_HT_isRule l B D G M a t ht (cz_tx hI.2.2.1) (cz_tx hI.2.2.2.1)) tw_852 tw_850 tw_851 tw_63 (by decide +kernel) rfl rfl ⟨by show 6 + 1 ≤ R.frames; omega, by show 8 + (4 + 11) + 132 ≤ R.locals; omega⟩ rfl hl.1 rfl (Nat.le_of_ble_eq_true rfl) dd_RD_isTextFor_41 ⟨by omega, by omega⟩) (fun r8 M9 H locs hw10 hP hS => ?_)
    refine W.widen (k := 0) (n := 0) (by omega) (by omega) ?_
    obtain ⟨rfl, eM9⟩ := hw10
    rw [eM9] at hP
    exact hm_Ei (v := nI (bz (ru_ok t))) hx hb hr (bz_n _) hS hP (⟨by rw [tx_for, if_neg (by omega), if_neg (by omega), if_neg (by omega)], rfl⟩) hlocks (by omega) (by omega) dd_RD_isTextFor_44
set_option maxHeartbeats 4000000 in
set_option maxRecDepth 100000 in
theorem kc_RD_isMet (l : Launch) (B : Nat) (D : va_G) (G : Nat → Nat) (M : hm_M) (N O : Nat → Nat) (hI : im_R D G N O M) (key : List Nat) (hs : List (List Nat × List Nat)) (hM : ms_R B D G N O M key hs) (s9 : Int32) (hs9 : 0 ≤ s9.toInt ∧ s9.toInt ≤ 3) (hkl : key.length ≤ 48) (a : Nat) (t : List Nat) (ht : tx_S D M a t) : Met l yy_RD_isMet ws_RD_isMet ({ frames := 7, cells := 0, slots := 0, locals := 168 }) (hm_Pc B D G M [.ref (N 0), .int s9, .ref a]) (hm_Ni B D (fun r M1 => r = nI (bz (mt_for s9 key hs t)) ∧ M1 = M)) (0) (0) (hm_A B) := by
  refine Met.ofW (cc := cd_RD_isMet) (maxL := 3) (ret := ((some FieldType.boolean))) (by decide) rfl ?_
  intro p e s m args below meth c s₁ B0 hml hv
  obtain ⟨rfl, hE, hP⟩ := hv
  have hx := B0.exec
  have hb := B0.bytes
  have hr := B0.returns
  have hts : ∀ w ∈ tb_G, w.before _ s = true := fun w h => atoms_spec (ws := ws_RD_isMet) B0.pre w (List.mem_cons_of_mem _ h)
  have hown : s.vm.findClass "RouteDesk" = some m.cls := findClass_of_methodNamed B0.named
  have hlocks := B0.notSynchronized
  have hRf : (headSpec ws_RD_isMet { frames := 7, cells := 0, slots := 0, locals := 168 }).room.frames = 7 := rfl
  have hRl : (headSpec ws_RD_isMet { frames := 7, cells := 0, slots := 0, locals := 168 }).room.locals = 168 := rfl
  have hRc : (headSpec ws_RD_isMet { frames := 7, cells := 0, slots := 0, locals := 168 }).room.cells = 0 := rfl
  have hRs : (headSpec ws_RD_isMet { frames := 7, cells := 0, slots := 0, locals := 168 }).room.slots = 0 := rfl
  generalize (headSpec ws_RD_isMet { frames := 7, cells := 0, slots := 0, locals := 168 }).room = R at hRf hRl hRc hRs ⊢
  have hS : va_S (hm_A B) s.heap s.heap [] := va_S.rf
  have hl := lv_entry ([.ref (N 0), .int s9, .ref a]) (n := 3) (Nat.le_of_ble_eq_true rfl)
  rw [lg_entry_eq]
  generalize (lg_sl ([.ref (N 0), .int s9, .ref a]) ++ List.replicate (3 - (lg_sl ([.ref (N 0), .int s9, .ref a])).length) Slot.unset).toArray = ls at hl ⊢
  have hl : lv_has ls 3 [(0, .ref (N 0)), (1, .int s9), (2, .ref a)] := hl
  obtain ⟨kk, d5, xs5, m1, m2, m3, m4, l1, l2, l3, l4, l5, l6, l7⟩ := id hM
  obtain ⟨n6, f6, mo6, ll1, ll2, ll3⟩ := id l1
  obtain ⟨vkk, hkk⟩ := tx_o (cz_tx m4)
  obtain ⟨va, hao⟩ := tx_o ht
  refine lv_iload_n hx hb dd_RD_isMet_0 rfl (lv_at hl 1 rfl) ?_
  rcases (show s9.toInt = 0 ∨ s9.toInt = 1 ∨ s9.toInt = 2 ∨ (s9.toInt < 0 ∨ 2 < s9.toInt) from by omega) with sw1 | sw1 | sw1 | sw1
  · refine lv_tableIn (off := 27) (tgt := 28) hx hb dd_RD_isMet_1 (by omega) (by omega) (by rw [sw1]; rfl) (by decide) ?_
    refine lv_aload_n hx hb dd_RD_isMet_28 rfl (lv_at hl 2 rfl) ?_
    refine lv_aload_n hx hb dd_RD_isMet_29 rfl (lv_at hl 0 rfl) ?_
    refine hm_get (ci := 0) (C := rn_RD) (T := ft_RD) (N := 6) hx hb hts fi_RD hown hE.K hP hI.o rfl 4 (by decide) (hts _ tw_188) (fun _ h9 => h9) rfl dd_RD_isMet_30 ?_
    refine hm_getN (ci := 4) (C := rn_MG) (T := ft_MG) (N := 2) hx hb hts fi_MG hown hE.K hP m1 rfl 0 (by decide) (va_Nw.use rfl (hE.nest 1 rfl)) (fun _ h9 => h9) rfl dd_RD_isMet_33 ?_
    refine hm_ci hS (hm_rV 1 (As := [.ref kk]) (rest := []) ⟨hx, hb, hml, hown, hts⟩ hE hS hP (kc_ST_equals l B D G M a t ht kk key (cz_tx m4)) rfl hao tw_591 tw_588 tw_589 tw_590 tw_39 (by decide +kernel) rfl rfl ⟨by show 1 + 1 ≤ R.frames; omega, by show 8 + (3 + 11) + 22 ≤ R.locals; omega⟩ rfl hl.1 rfl (Nat.le_of_ble_eq_true rfl) dd_RD_isMet_36 ⟨by omega, by omega⟩) (fun r2 M3 H locs hw4 hP hS => ?_)
    refine W.widen (k := 0) (n := 0) (by omega) (by omega) ?_
    obtain ⟨rfl, eM3⟩ := hw4
    rw [eM3] at hP
    exact hm_Ei (v := nI (if t = key then 1 else 0)) hx hb hr (hi_bool _ _) hS hP (⟨by rw [show mt_for s9 key hs t = decide (t = key) by rw [mt_for, if_pos (by omega)]]; exact bz_if _, rfl⟩) hlocks (by omega) (by omega) dd_RD_isMet_39
  · refine lv_tableIn (off := 39) (tgt := 40) hx hb dd_RD_isMet_1 (by omega) (by omega) (by rw [sw1]; rfl) (by decide) ?_
    refine lv_iconst (v := nI 1) hx hb dd_RD_isMet_40 (by decide +kernel) ?_
    exact hm_Ei (v := nI 1) hx hb hr rfl hS hP (⟨by rw [mt_for, if_neg (by omega), if_pos (by omega)]; rfl, rfl⟩) hlocks (by omega) (by omega) dd_RD_isMet_41
  · refine lv_tableIn (off := 41) (tgt := 42) hx hb dd_RD_isMet_1 (by omega) (by omega) (by rw [sw1]; rfl) (by decide) ?_
    refine lv_aload_n hx hb dd_RD_isMet_42 rfl (lv_at hl 2 rfl) ?_
    refine lv_aload_n hx hb dd_RD_isMet_43 rfl (lv_at hl 0 rfl) ?_
    refine hm_get (ci := 0) (C := rn_RD) (T := ft_RD) (N := 6) hx hb hts fi_RD hown hE.K hP hI.o rfl 4 (by decide) (hts _ tw_188) (fun _ h9 => h9) rfl dd_RD_isMet_44 ?_
    refine hm_getN (ci := 4) (C := rn_MG) (T := ft_MG) (N := 2) hx hb hts fi_MG hown hE.K hP m1 rfl 0 (by decide) (va_Nw.use rfl (hE.nest 1 rfl)) (fun _ h9 => h9) rfl dd_RD_isMet_47 ?_
    refine hm_ci hS (hm_rS 2 (As := [.ref a, .ref kk]) (rest := []) ⟨hx, hb, hml, hown, hts⟩ hE hS hP (kc_PT_isLike l B D G M a t ht kk key (cz_tx m4) (by omega)) tw_915 tw_913 tw_914 tw_61 (by decide +kernel) rfl rfl ⟨by show 6 + 1 ≤ R.frames; omega, by show 8 + (6 + 11) + 143 ≤ R.locals; omega⟩ rfl hl.1 rfl (Nat.le_of_ble_eq_true rfl) dd_RD_isMet_50 ⟨by omega, by omega⟩) (fun r5 M6 H locs hw7 hP hS => ?_)
    refine W.widen (k := 0) (n := 0) (by omega) (by omega) ?_
    obtain ⟨rfl, eM6⟩ := hw7
    rw [eM6] at hP
    exact hm_Ei (v := nI (bz (tp_like t key))) hx hb hr (bz_n _) hS hP (⟨by rw [mt_for, if_neg (by omega), if_neg (by omega), if_pos (by omega)], rfl⟩) hlocks (by omega) (by omega) dd_RD_isMet_53
  · refine lv_tableOut (tgt := 54) hx hb dd_RD_isMet_1 sw1 (by decide) ?_
    refine lv_aload_n hx hb dd_RD_isMet_54 rfl (lv_at hl 2 rfl) ?_
    refine lv_aload_n hx hb dd_RD_isMet_55 rfl (lv_at hl 0 rfl) ?_
    refine hm_get (ci := 0) (C := rn_RD) (T := ft_RD) (N := 6) hx hb hts fi_RD hown hE.K hP hI.o rfl 4 (by decide) (hts _ tw_188) (fun _ h9 => h9) rfl dd_RD_isMet_56 ?_
    refine hm_ci hS (hm_rS 2 (As := [.ref a, .ref (N 5)]) (rest := []) ⟨hx, hb, hml, hown, hts⟩ hE hS hP (kc_HT_isRuleMet l B D G M a t ht (cz_tx hI.2.2.1) (N 5) key hs hM.mg) tw_935 tw_933 tw_934 tw_63 (by decide +kernel) rfl rfl ⟨by show 6 + 1 ≤ R.frames; omega, by show 8 + (5 + 11) + 137 ≤ R.locals; omega⟩ rfl hl.1 rfl (Nat.le_of_ble_eq_true rfl) dd_RD_isMet_59 ⟨by omega, by omega⟩) (fun r8 M9 H locs hw10 hP hS => ?_)
    refine W.widen (k := 0) (n := 0) (by omega) (by omega) ?_
    obtain ⟨rfl, eM9⟩ := hw10
    rw [eM9] at hP
    exact hm_Ei (v := nI (bz (ru_met hs t))) hx hb hr (bz_n _) hS hP (⟨by rw [mt_for, if_neg (by omega), if_neg (by omega), if_neg (by omega)], rfl⟩) hlocks (by omega) (by omega) dd_RD_isMet_62
