/-! a routing from its start on -/
def cl_b (ps : Nat → Bool) (k j : Nat) : Bool := if j < k then false else ps j
theorem cl_0 (ps : Nat → Bool) : cl_b ps 0 = ps := by funext j; simp [cl_b]
theorem cl_up (ps : Nat → Bool) (k : Nat) : upd (fun j => nI (bz (cl_b ps k j))) k (nI (bz false)) = fun j => nI (bz (cl_b ps (k + 1) j)) := by
  rw [bz_up]
  funext j
  unfold va_up cl_b
  by_cases h : j = k
  · rw [if_pos h, if_pos (by omega)]
  · rw [if_neg h]
    by_cases h2 : j < k
    · rw [if_pos h2, if_pos (by omega)]
    · rw [if_neg h2, if_neg (by omega)]
theorem cl_n (ps : Nat → Bool) : qu_n (cl_b ps 16) = 0 := by
  unfold qu_n
  rw [List.countP_eq_zero]
  intro a ha
  have := List.mem_range.mp ha
  simp [cl_b, this]
theorem hm_same {M : hm_M} {a : Nat} {e : va_E} (h : M a = some e) : hm_up M a e = M := by
  funext q
  unfold hm_up
  split
  · rename_i e2; rw [e2, h]
  · rfl
/-- passed, their order, found -/
abbrev rs_T : Type := (Nat → Bool) × (Nat → Int32) × (Nat → Bool)
def rs_p (r : rs_T) (x : Int32) : rs_T := (mp_s r.1 x, mp_o r.1 r.2.1 x, r.2.2)
def rs_f (r : rs_T) (x : Int32) : rs_T := (r.1, r.2.1, mp_s r.2.2 x)
def rs_w (r : rs_T) (b : bd_T) : rs_T := if b.2.2.1 = true then rs_f r b.2.1 else rs_p r b.2.1
def rs_l (P : bd_T → Bool) (bs : List bd_T) (r : rs_T) : rs_T := (bs.filter P).foldl rs_w r
theorem rs_step {P : bd_T → Bool} {bs : List bd_T} {k : Nat} {b : bd_T} {r : rs_T} (h : bs[k]? = some b) : rs_l P (bs.take (k + 1)) r = if P b = true then rs_w (rs_l P (bs.take k) r) b else rs_l P (bs.take k) r := by
  unfold rs_l
  rw [List.take_add_one, h, List.filter_append, List.foldl_append]
  by_cases hp : P b = true <;> simp [hp]
theorem an_step {P : bd_T → Bool} {bs : List bd_T} {k : Nat} {b : bd_T} (h : bs[k]? = some b) : (bs.take (k + 1)).any P = ((bs.take k).any P || P b) := by
  rw [List.take_add_one, h, List.any_append]
  simp
def rs_R (B : Nat) (D : va_G) (N O : Nat → Nat) (M : hm_M) (r : rs_T) : Prop := rt_R B D N O M r.1 r.2.1 r.2.2
/-- the bindings of an exchange that lead on -/
def ld_P (key : List Nat) (hs : List (List Nat × List Nat)) (x s : Int32) (b : bd_T) : Bool := bd_fr x b && mt_for s key hs b.2.2.2
def ld_r (ex : Nat → Option (Int32 × Int32)) (bs : List bd_T) (key : List Nat) (hs : List (List Nat × List Nat)) (r : rs_T) (x : Int32) : rs_T := match ex_at ex x with
  | none => r
  | some e => if bs.any (ld_P key hs x e.1) = true then rs_l (ld_P key hs x e.1) bs r else if (ex_at ex e.2).isSome = true then rs_p r e.2 else r
theorem rs_none {P : bd_T → Bool} {bs : List bd_T} {r : rs_T} (h : bs.any P = false) : rs_l P bs r = r := by
  unfold rs_l
  rw [List.filter_eq_nil_iff.mpr (fun a ha => by have := List.any_eq_false.mp h a ha; exact this)]
  rfl

set_option maxHeartbeats 4000000 in
set_option maxRecDepth 100000 in
theorem kc_RT_startAt (l : Launch) (B : Nat) (D : va_G) (G : Nat → Nat) (M : hm_M) (N O : Nat → Nat) (ps : Nat → Bool) (od : Nat → Int32) (fo : Nat → Bool) (hR : rt_R B D N O M ps od fo) (x : Int32) : Met l yy_RT_startAt ws_RT_startAt ({ frames := 1, cells := 0, slots := 0, locals := 21 }) (hm_Pc B D G M [.ref (N 7), .int x]) (hm_Nv B D (fun M1 => rt_R B D N O M1 (mp_s (cl_b ps 16) x) (mp_o (cl_b ps 16) od x) (cl_b fo 16) ∧ cz_F O M O M1 (cg 6))) (0) (0) (hm_A B) := by
  refine Met.ofW (cc := cd_RT_startAt) (maxL := 3) (ret := none) (by decide) rfl ?_
  intro p e s m args below meth c s₁ B0 hml hv
  obtain ⟨rfl, hE, hP⟩ := hv
  have hx := B0.exec
  have hb := B0.bytes
  have hr := B0.returns
  have hts : ∀ w ∈ tb_G, w.before _ s = true := fun w h => atoms_spec (ws := ws_RT_startAt) B0.pre w (List.mem_cons_of_mem _ h)
  have hown : s.vm.findClass "RouteDesk$Routing" = some m.cls := findClass_of_methodNamed B0.named
  have hlocks := B0.notSynchronized
  have hRf : (headSpec ws_RT_startAt { frames := 1, cells := 0, slots := 0, locals := 21 }).room.frames = 1 := rfl
  have hRl : (headSpec ws_RT_startAt { frames := 1, cells := 0, slots := 0, locals := 21 }).room.locals = 21 := rfl
  have hRc : (headSpec ws_RT_startAt { frames := 1, cells := 0, slots := 0, locals := 21 }).room.cells = 0 := rfl
  have hRs : (headSpec ws_RT_startAt { frames := 1, cells := 0, slots := 0, locals := 21 }).room.slots = 0 := rfl
  generalize (headSpec ws_RT_startAt { frames := 1, cells := 0, slots := 0, locals := 21 }).room = R at hRf hRl hRc hRs ⊢
  have hS : va_S (hm_A B) s.heap s.heap [] := va_S.rf
  have hl := lv_entry ([.ref (N 7), .int x]) (n := 3) (Nat.le_of_ble_eq_true rfl)
  rw [lg_entry_eq]
  generalize (lg_sl ([.ref (N 7), .int x]) ++ List.replicate (3 - (lg_sl ([.ref (N 7), .int x])).length) Slot.unset).toArray = ls at hl ⊢
  have hl : lv_has ls 3 [(0, .ref (N 7)), (1, .int x)] := hl
  obtain ⟨r1, r2, r3, r4, ⟨ro1, ro2, ro3, ro4⟩, ⟨rb1, rb2, rb3, rb4⟩⟩ := id hR
  have rp := qu_le ps
  have rf := qu_le fo
  refine lv_iconst (v := nI 0) hx hb dd_RT_startAt_0 (by decide +kernel) ?_
  refine lv_istore_n (lv' := [(2, .int (nI 0)), (0, .ref (N 7)), (1, .int x)]) hx hb dd_RT_startAt_1 rfl hl (by decide) rfl (fun ls hl => ?_)
  have lp2 : ∀ (n9 : Nat) (k : Nat) (Mu : hm_M), (k ≤ 16) → (Mu = hm_up M (N 8) (.inl (D.1 101, 16, .inl (fun j => nI (bz (cl_b ps k j)))))) → 16 - k < n9 → ∀ (H : Heap) (locs : List Loc) (ls : Array Slot), hm_P D cl_W Mu H → va_S (hm_A B) s.heap H locs → lv_has ls 3 [(0, .ref (N 7)), (1, .int x), (2, .int (nI k))] → W p l e R s m ([.ref (N 7), .int x] : List Value).toArray below meth c H locs (0) (0) (MQ below (hm_Nv B D (fun M1 => rt_R B D N O M1 (mp_s (cl_b ps 16) x) (mp_o (cl_b ps 16) od x) (cl_b fo 16) ∧ cz_F O M O M1 (cg 6))) ([.ref (N 7), .int x] : List Value).toArray s (0) (0) (hm_A B)) (F0 m 2 ls []) := by
    intro n9
    induction n9 with
    | zero => intro k Mu hk e9 hm; exact absurd hm (Nat.not_lt_zero _)
    | succ n9 ih2 =>
      intro k Mu hk e9 hm H locs ls hP hS hl
      have g7 : Mu (N 7) = some (.inr (5, [.ref (N 8), .ref (N 9), .int (nI (qu_n ps)), .ref (N 10), .int (nI (qu_n fo))])) := by rw [e9]; exact hm_up_o (hm_neO ro1 ro2 (by decide)) r1
      have g8 : Mu (N 8) = some (.inl (D.1 101, 16, .inl (fun j => nI (bz (cl_b ps k j))))) := by rw [e9]; exact hm_up_s
      have g9 : Mu (N 9) = some (.inl (D.1 102, 16, .inl od)) := by rw [e9]; exact hm_up_o (hm_neO ro3 ro2 (by decide)) r3
      have g10 : Mu (N 10) = some (.inl (D.1 101, 16, .inl (fun k => nI (bz (fo k))))) := by rw [e9]; exact hm_up_o (hm_neO ro4 ro2 (by decide)) r4
      refine lv_iload_n hx hb dd_RT_startAt_2 rfl (lv_at hl 2 rfl) ?_
      refine lv_bipush (v := nI 16) hx hb dd_RT_startAt_3 (by decide +kernel) ?_
      refine hn_icmp_ge (tgt := 21) hx hb (by omega) (by omega) dd_RT_startAt_5 (by decide) (fun c1 => ?_) (fun c1 => ?_)
      · refine lv_iconst (v := nI 0) hx hb dd_RT_startAt_21 (by decide +kernel) ?_
        refine lv_istore_n (lv' := [(2, .int (nI 0)), (0, .ref (N 7)), (1, .int x)]) hx hb dd_RT_startAt_22 rfl hl (by decide) rfl (fun ls hl => ?_)
        have lp23 : ∀ (n9 : Nat) (k2 : Nat) (Mv : hm_M), (k2 ≤ 16) → (Mv = hm_up (hm_up M (N 8) (.inl (D.1 101, 16, .inl (fun j => nI (bz (cl_b ps 16 j)))))) (N 10) (.inl (D.1 101, 16, .inl (fun j => nI (bz (cl_b fo k2 j)))))) → 16 - k2 < n9 → ∀ (H : Heap) (locs : List Loc) (ls : Array Slot), hm_P D cl_W Mv H → va_S (hm_A B) s.heap H locs → lv_has ls 3 [(0, .ref (N 7)), (1, .int x), (2, .int (nI k2))] → W p l e R s m ([.ref (N 7), .int x] : List Value).toArray below meth c H locs (0) (0) (MQ below (hm_Nv B D (fun M1 => rt_R B D N O M1 (mp_s (cl_b ps 16) x) (mp_o (cl_b ps 16) od x) (cl_b fo 16) ∧ cz_F O M O M1 (cg 6))) ([.ref (N 7), .int x] : List Value).toArray s (0) (0) (hm_A B)) (F0 m 23 ls []) := by
          intro n9
          induction n9 with
          | zero => intro k2 Mv hk2 e8 hm; exact absurd hm (Nat.not_lt_zero _)
          | succ n9 ih23 =>
            intro k2 Mv hk2 e8 hm H locs ls hP hS hl
            have g7 : Mv (N 7) = some (.inr (5, [.ref (N 8), .ref (N 9), .int (nI (qu_n ps)), .ref (N 10), .int (nI (qu_n fo))])) := by rw [e8]; exact hm_up_o (hm_neO ro1 ro4 (by decide)) (hm_up_o (hm_neO ro1 ro2 (by decide)) r1)
            have g8 : Mv (N 8) = some (.inl (D.1 101, 16, .inl (fun j => nI (bz (cl_b ps 16 j))))) := by rw [e8]; exact hm_up_o (hm_neO ro2 ro4 (by decide)) hm_up_s
            have g9 : Mv (N 9) = some (.inl (D.1 102, 16, .inl od)) := by rw [e8]; exact hm_up_o (hm_neO ro3 ro4 (by decide)) (hm_up_o (hm_neO ro3 ro2 (by decide)) r3)
            have g10 : Mv (N 10) = some (.inl (D.1 101, 16, .inl (fun j => nI (bz (cl_b fo k2 j))))) := by rw [e8]; exact hm_up_s
            refine lv_iload_n hx hb dd_RT_startAt_23 rfl (lv_at hl 2 rfl) ?_
            refine lv_bipush (v := nI 16) hx hb dd_RT_startAt_24 (by decide +kernel) ?_
            refine hn_icmp_ge (tgt := 42) hx hb (by omega) (by omega) dd_RT_startAt_26 (by decide) (fun c2 => ?_) (fun c2 => ?_)
            · refine lv_aload_n hx hb dd_RT_startAt_42 rfl (lv_at hl 0 rfl) ?_
              refine lv_iconst (v := nI 0) hx hb dd_RT_startAt_43 (by decide +kernel) ?_
              refine hm_put (ci := 5) (v := .int (nI 0)) (ty := .int) (C := rn_RT) (T := ft_RT) (N := 5) hx hb hts fi_RT fy_RT fo_RT fn_RT hown hE.K hP hS rb1 g7 rfl 2 (by decide) (hts _ tw_167) (fun _ h9 => h9) rfl (by decide +kernel) rfl rfl (Nat.le_of_ble_eq_true rfl) dd_RT_startAt_44 (fun H locs hP hS => ?_)
              have hP : hm_P D cl_W (hm_up Mv (N 7) (.inr (5, [.ref (N 8), .ref (N 9), .int (nI 0), .ref (N 10), .int (nI (qu_n fo))]))) H := hP
              obtain ⟨M3, eM3⟩ : ∃ z, z = hm_up Mv (N 7) (.inr (5, [.ref (N 8), .ref (N 9), .int (nI 0), .ref (N 10), .int (nI (qu_n fo))])) := ⟨_, rfl⟩
              rw [← eM3] at hP
              have f4 : M3 (N 8) = some (.inl (D.1 101, 16, .inl (fun j => nI (bz (cl_b ps 16 j))))) := by rw [eM3]; exact hm_up_o (hm_ne g8 g7 (by intro h9; cases h9)) g8
              have f5 : M3 (N 9) = some (.inl (D.1 102, 16, .inl od)) := by rw [eM3]; exact hm_up_o (hm_ne g9 g7 (by intro h9; cases h9)) g9
              have f6 : M3 (N 10) = some (.inl (D.1 101, 16, .inl (fun j => nI (bz (cl_b fo k2 j))))) := by rw [eM3]; exact hm_up_o (hm_ne g10 g7 (by intro h9; cases h9)) g10
              have f7 : M3 (N 7) = some (.inr (5, [.ref (N 8), .ref (N 9), .int (nI 0), .ref (N 10), .int (nI (qu_n fo))])) := by rw [eM3]; exact hm_up_s
              refine lv_aload_n hx hb dd_RT_startAt_47 rfl (lv_at hl 0 rfl) ?_
              refine lv_iconst (v := nI 0) hx hb dd_RT_startAt_48 (by decide +kernel) ?_
              refine hm_put (ci := 5) (v := .int (nI 0)) (ty := .int) (C := rn_RT) (T := ft_RT) (N := 5) hx hb hts fi_RT fy_RT fo_RT fn_RT hown hE.K hP hS rb1 f7 rfl 4 (by decide) (hts _ tw_170) (fun _ h9 => h9) rfl (by decide +kernel) rfl rfl (Nat.le_of_ble_eq_true rfl) dd_RT_startAt_49 (fun H locs hP hS => ?_)
              have hP : hm_P D cl_W (hm_up M3 (N 7) (.inr (5, [.ref (N 8), .ref (N 9), .int (nI 0), .ref (N 10), .int (nI 0)]))) H := hP
              obtain ⟨M8, eM8⟩ : ∃ z, z = hm_up M3 (N 7) (.inr (5, [.ref (N 8), .ref (N 9), .int (nI 0), .ref (N 10), .int (nI 0)])) := ⟨_, rfl⟩
              rw [← eM8] at hP
              have f9 : M8 (N 8) = some (.inl (D.1 101, 16, .inl (fun j => nI (bz (cl_b ps 16 j))))) := by rw [eM8]; exact hm_up_o (hm_ne f4 f7 (by intro h9; cases h9)) f4
              have f10 : M8 (N 9) = some (.inl (D.1 102, 16, .inl od)) := by rw [eM8]; exact hm_up_o (hm_ne f5 f7 (by intro h9; cases h9)) f5
              have f11 : M8 (N 10) = some (.inl (D.1 101, 16, .inl (fun j => nI (bz (cl_b fo k2 j))))) := by rw [eM8]; exact hm_up_o (hm_ne f6 f7 (by intro h9; cases h9)) f6
              have f12 : M8 (N 7) = some (.inr (5, [.ref (N 8), .ref (N 9), .int (nI 0), .ref (N 10), .int (nI 0)])) := by rw [eM8]; exact hm_up_s
              refine lv_aload_n hx hb dd_RT_startAt_52 rfl (lv_at hl 0 rfl) ?_
              refine lv_iload_n hx hb dd_RT_startAt_53 rfl (lv_at hl 1 rfl) ?_
              have hk8 : hm_k M Mv [(N 7), (N 8), (N 9), (N 10)] := hm_ku (hm_ku hm_krf (Or.inr (by simp)) rfl) (Or.inr (by simp)) e8
              have kk13 : hm_k M M3 [(N 7), (N 8), (N 9), (N 10)] := hm_ku hk8 (Or.inr (by simp)) eM3
              have kk14 : hm_k M M8 [(N 7), (N 8), (N 9), (N 10)] := hm_ku kk13 (Or.inr (by simp)) eM8
              have k216 : k2 = 16 := by omega
              subst k216
              have hF9 : cz_F O M O M8 (cg 6) := cz_F.k0 kk14 (hm_a4 ⟨by rw [ro1]; rfl, _, f12⟩ ⟨by rw [ro2]; rfl, _, f9⟩ ⟨by rw [ro3]; rfl, _, f10⟩ ⟨by rw [ro4]; rfl, _, f11⟩)
              have hR9 : rt_R B D N O M8 (cl_b ps 16) od (cl_b fo 16) := ⟨by rw [cl_n, cl_n]; exact f12, f9, f10, f11, ⟨ro1, ro2, ro3, ro4⟩, ⟨rb1, rb2, rb3, rb4⟩⟩
              refine hm_cv hS (hm_rV 1 (As := [.int x]) (rest := []) ⟨hx, hb, hml, hown, hts⟩ hE hS hP (kc_RT_markPassed l B D G M8 N O (cl_b ps 16) od (cl_b fo 16) hR9 x) rfl f12 tw_904 tw_901 tw_902 tw_903 tw_45 (by decide +kernel) rfl rfl ⟨by show 0 + 1 ≤ R.frames; omega, by show 8 + (2 + 11) + 0 ≤ R.locals; omega⟩ rfl hl.1 rfl (Nat.le_of_ble_eq_true rfl) dd_RT_startAt_54 ⟨by omega, by omega⟩) (fun M16 H locs hw17 hP hS => ?_)
              refine W.widen (k := 0) (n := 0) (by omega) (by omega) ?_
              obtain ⟨kq1, kq2⟩ := hw17
              exact hm_Ev hx hb hr hS hP (⟨kq1, hF9.trans kq2⟩) hlocks (by omega) (by omega) dd_RT_startAt_57
            · refine lv_aload_n hx hb dd_RT_startAt_29 rfl (lv_at hl 0 rfl) ?_
              refine hm_get (ci := 5) (C := rn_RT) (T := ft_RT) (N := 5) hx hb hts fi_RT hown hE.K hP g7 rfl 3 (by decide) (hts _ tw_169) (fun _ h9 => h9) rfl dd_RT_startAt_30 ?_
              refine lv_iload_n hx hb dd_RT_startAt_33 rfl (lv_at hl 2 rfl) ?_
              refine lv_iconst (v := nI 0) hx hb dd_RT_startAt_34 (by decide +kernel) ?_
              refine hm_zast (y := nI (bz false)) (j := k2) hx hb hE.K hP hS rb4 1 g10 rfl (vp_in_nI (by omega) (by omega)) (nI_clamp (by omega)) rfl dd_RT_startAt_35 (fun H locs hP hS => ?_)
              obtain ⟨M18, eM18⟩ : ∃ z, z = hm_up Mv (N 10) (.inl (D.1 101, 16, .inl (upd (fun j => nI (bz (cl_b fo k2 j))) k2 (nI (bz false))))) := ⟨_, rfl⟩
              rw [← eM18] at hP
              have f19 : M18 (N 7) = some (.inr (5, [.ref (N 8), .ref (N 9), .int (nI (qu_n ps)), .ref (N 10), .int (nI (qu_n fo))])) := by rw [eM18]; exact hm_up_o (hm_ne g7 g10 (by intro h9; cases h9)) g7
              have f20 : M18 (N 8) = some (.inl (D.1 101, 16, .inl (fun j => nI (bz (cl_b ps 16 j))))) := by rw [eM18]; exact hm_up_o (hm_neO ro2 ro4 (by decide)) g8
              have f21 : M18 (N 9) = some (.inl (D.1 102, 16, .inl od)) := by rw [eM18]; exact hm_up_o (hm_neO ro3 ro4 (by decide)) g9
              have f22 : M18 (N 10) = some (.inl (D.1 101, 16, .inl (upd (fun j => nI (bz (cl_b fo k2 j))) k2 (nI (bz false))))) := by rw [eM18]; exact hm_up_s
              refine lv_iinc (v := nI (k2 + 1)) (lv' := [(2, .int (nI (k2 + 1))), (0, .ref (N 7)), (1, .int x)]) hx hb dd_RT_startAt_36 hl (k := 2) rfl (nI_1 k2) (by decide) rfl (fun ls hl => ?_)
              refine lv_goto (tgt := 23) hx hb dd_RT_startAt_39 (by decide) ?_
              exact ih23 (k2 + 1) M18 (by omega) (by rw [eM18, e8, hm_uu, cl_up]) (by omega) _ _ _ hP hS (lv_sub hl [1, 2, 0] rfl)
        exact lp23 _ 0 Mu (Nat.zero_le _) (by rw [cl_0, e9, show k = 16 by omega]; exact (hm_same (by rw [e9, show k = 16 by omega] at g10; exact g10)).symm) (Nat.lt_succ_self _) _ _ _ hP hS (lv_sub hl [1, 2, 0] rfl)
      · refine lv_aload_n hx hb dd_RT_startAt_8 rfl (lv_at hl 0 rfl) ?_
        refine hm_get (ci := 5) (C := rn_RT) (T := ft_RT) (N := 5) hx hb hts fi_RT hown hE.K hP g7 rfl 0 (by decide) (hts _ tw_163) (fun _ h9 => h9) rfl dd_RT_startAt_9 ?_
        refine lv_iload_n hx hb dd_RT_startAt_12 rfl (lv_at hl 2 rfl) ?_
        refine lv_iconst (v := nI 0) hx hb dd_RT_startAt_13 (by decide +kernel) ?_
        refine hm_zast (y := nI (bz false)) (j := k) hx hb hE.K hP hS rb2 1 g8 rfl (vp_in_nI (by omega) (by omega)) (nI_clamp (by omega)) rfl dd_RT_startAt_14 (fun H locs hP hS => ?_)
        obtain ⟨M23, eM23⟩ : ∃ z, z = hm_up Mu (N 8) (.inl (D.1 101, 16, .inl (upd (fun j => nI (bz (cl_b ps k j))) k (nI (bz false))))) := ⟨_, rfl⟩
        rw [← eM23] at hP
        have f24 : M23 (N 7) = some (.inr (5, [.ref (N 8), .ref (N 9), .int (nI (qu_n ps)), .ref (N 10), .int (nI (qu_n fo))])) := by rw [eM23]; exact hm_up_o (hm_ne g7 g8 (by intro h9; cases h9)) g7
        have f25 : M23 (N 9) = some (.inl (D.1 102, 16, .inl od)) := by rw [eM23]; exact hm_up_o (Ne.symm (hm_neO ro2 ro3 (by decide))) g9
        have f26 : M23 (N 10) = some (.inl (D.1 101, 16, .inl (fun k => nI (bz (fo k))))) := by rw [eM23]; exact hm_up_o (Ne.symm (hm_neO ro2 ro4 (by decide))) g10
        have f27 : M23 (N 8) = some (.inl (D.1 101, 16, .inl (upd (fun j => nI (bz (cl_b ps k j))) k (nI (bz false))))) := by rw [eM23]; exact hm_up_s
        refine lv_iinc (v := nI (k + 1)) (lv' := [(2, .int (nI (k + 1))), (0, .ref (N 7)), (1, .int x)]) hx hb dd_RT_startAt_15 hl (k := 2) rfl (nI_1 k) (by decide) rfl (fun ls hl => ?_)
        refine lv_goto (tgt := 2) hx hb dd_RT_startAt_18 (by decide) ?_
        exact ih2 (k + 1) M23 (by omega) (by rw [eM23, e9, hm_uu, cl_up]) (by omega) _ _ _ hP hS (lv_sub hl [1, 2, 0] rfl)
  exact lp2 _ 0 M (Nat.zero_le _) (by rw [cl_0]; exact (hm_same r2).symm) (Nat.lt_succ_self _) _ _ _ hP hS (lv_sub hl [1, 2, 0] rfl)
set_option maxHeartbeats 4000000 in
set_option maxRecDepth 100000 in
theorem kc_RD_follow (l : Launch) (B : Nat) (D : va_G) (G : Nat → Nat) (M : hm_M) (N O : Nat → Nat) (hI : im_R D G N O M) (r : rs_T) (hR : rs_R B D N O M r) (b : bd_T) (a s9 : Nat) (hb9 : M a = some (.inr (1, [.int b.1, .int b.2.1, .int (nI (bz b.2.2.1)), .ref s9]))) : Met l yy_RD_follow ws_RD_follow ({ frames := 1, cells := 0, slots := 0, locals := 21 }) (hm_Pc B D G M [.ref (N 0), .ref a]) (hm_Nv B D (fun M1 => rs_R B D N O M1 (rs_w r b) ∧ cz_F O M O M1 (cg 6))) (0) (0) (hm_A B) := by
  refine Met.ofW (cc := cd_RD_follow) (maxL := 2) (ret := none) (by decide) rfl ?_
  intro p e s m args below meth c s₁ B0 hml hv
  obtain ⟨rfl, hE, hP⟩ := hv
  have hx := B0.exec
  have hb := B0.bytes
  have hr := B0.returns
  have hts : ∀ w ∈ tb_G, w.before _ s = true := fun w h => atoms_spec (ws := ws_RD_follow) B0.pre w (List.mem_cons_of_mem _ h)
  have hown : s.vm.findClass "RouteDesk" = some m.cls := findClass_of_methodNamed B0.named
  have hlocks := B0.notSynchronized
  have hRf : (headSpec ws_RD_follow { frames := 1, cells := 0, slots := 0, locals := 21 }).room.frames = 1 := rfl
  have hRl : (headSpec ws_RD_follow { frames := 1, cells := 0, slots := 0, locals := 21 }).room.locals = 21 := rfl
  have hRc : (headSpec ws_RD_follow { frames := 1, cells := 0, slots := 0, locals := 21 }).room.cells = 0 := rfl
  have hRs : (headSpec ws_RD_follow { frames := 1, cells := 0, slots := 0, locals := 21 }).room.slots = 0 := rfl
  generalize (headSpec ws_RD_follow { frames := 1, cells := 0, slots := 0, locals := 21 }).room = R at hRf hRl hRc hRs ⊢
  have hS : va_S (hm_A B) s.heap s.heap [] := va_S.rf
  have hl := lv_entry ([.ref (N 0), .ref a]) (n := 2) (Nat.le_of_ble_eq_true rfl)
  rw [lg_entry_eq]
  generalize (lg_sl ([.ref (N 0), .ref a]) ++ List.replicate (2 - (lg_sl ([.ref (N 0), .ref a])).length) Slot.unset).toArray = ls at hl ⊢
  have hl : lv_has ls 2 [(0, .ref (N 0)), (1, .ref a)] := hl
  obtain ⟨r1, r2, r3, r4, ⟨ro1, ro2, ro3, ro4⟩, ⟨rb1, rb2, rb3, rb4⟩⟩ := id hR
  have rp := qu_le r.1
  have rf := qu_le r.2.2
  refine lv_aload_n hx hb dd_RD_follow_0 rfl (lv_at hl 1 rfl) ?_
  refine hm_getN (ci := 1) (C := rn_BI) (T := ft_BI) (N := 4) hx hb hts fi_BI hown hE.K hP hb9 rfl 2 (by decide) (va_Nw.use rfl (hE.nest 20 rfl)) (fun _ h9 => h9) rfl dd_RD_follow_1 ?_
  refine hn_if_eq (tgt := 21) hx hb (bz_b _) dd_RD_follow_4 (by decide) (fun c1 => ?_) (fun c1 => ?_)
  · have c1 := bz_f c1
    refine lv_aload_n hx hb dd_RD_follow_21 rfl (lv_at hl 0 rfl) ?_
    refine hm_get (ci := 0) (C := rn_RD) (T := ft_RD) (N := 6) hx hb hts fi_RD hown hE.K hP hI.o rfl 5 (by decide) (hts _ tw_189) (fun _ h9 => h9) rfl dd_RD_follow_22 ?_
    refine lv_aload_n hx hb dd_RD_follow_25 rfl (lv_at hl 1 rfl) ?_
    refine hm_getN (ci := 1) (C := rn_BI) (T := ft_BI) (N := 4) hx hb hts fi_BI hown hE.K hP hb9 rfl 1 (by decide) (va_Nw.use rfl (hE.nest 19 rfl)) (fun _ h9 => h9) rfl dd_RD_follow_26 ?_
    refine hm_cv hS (hm_rV 1 (As := [.int b.2.1]) (rest := []) ⟨hx, hb, hml, hown, hts⟩ hE hS hP (kc_RT_markPassed l B D G M N O r.1 r.2.1 r.2.2 hR b.2.1) rfl r1 tw_904 tw_951 tw_902 tw_903 tw_45 (by decide +kernel) rfl rfl ⟨by show 0 + 1 ≤ R.frames; omega, by show 8 + (2 + 11) + 0 ≤ R.locals; omega⟩ rfl hl.1 rfl (Nat.le_of_ble_eq_true rfl) dd_RD_follow_29 ⟨by omega, by omega⟩) (fun M3 H locs hw4 hP hS => ?_)
    refine W.widen (k := 0) (n := 0) (by omega) (by omega) ?_
    obtain ⟨kq1, kq2⟩ := hw4
    exact hm_Ev hx hb hr hS hP (⟨by rw [rs_w, if_neg (by rw [c1]; decide)]; exact kq1, kq2⟩) hlocks (by omega) (by omega) dd_RD_follow_32
  · have c1 := bz_t c1
    refine lv_aload_n hx hb dd_RD_follow_7 rfl (lv_at hl 0 rfl) ?_
    refine hm_get (ci := 0) (C := rn_RD) (T := ft_RD) (N := 6) hx hb hts fi_RD hown hE.K hP hI.o rfl 5 (by decide) (hts _ tw_189) (fun _ h9 => h9) rfl dd_RD_follow_8 ?_
    refine lv_aload_n hx hb dd_RD_follow_11 rfl (lv_at hl 1 rfl) ?_
    refine hm_getN (ci := 1) (C := rn_BI) (T := ft_BI) (N := 4) hx hb hts fi_BI hown hE.K hP hb9 rfl 1 (by decide) (va_Nw.use rfl (hE.nest 19 rfl)) (fun _ h9 => h9) rfl dd_RD_follow_12 ?_
    refine hm_cv hS (hm_rV 1 (As := [.int b.2.1]) (rest := []) ⟨hx, hb, hml, hown, hts⟩ hE hS hP (kc_RT_markFound l B D G M N O r.1 r.2.1 r.2.2 hR b.2.1) rfl r1 tw_950 tw_947 tw_948 tw_949 tw_45 (by decide +kernel) rfl rfl ⟨by show 0 + 1 ≤ R.frames; omega, by show 8 + (2 + 11) + 0 ≤ R.locals; omega⟩ rfl hl.1 rfl (Nat.le_of_ble_eq_true rfl) dd_RD_follow_15 ⟨by omega, by omega⟩) (fun M6 H locs hw7 hP hS => ?_)
    refine W.widen (k := 0) (n := 0) (by omega) (by omega) ?_
    obtain ⟨kq1, kq2⟩ := hw7
    refine lv_goto (tgt := 32) hx hb dd_RD_follow_18 (by decide) ?_
    exact hm_Ev hx hb hr hS hP (⟨by rw [rs_w, if_pos c1]; exact kq1, kq2⟩) hlocks (by omega) (by omega) dd_RD_follow_32
set_option maxHeartbeats 4000000 in
set_option maxRecDepth 100000 in
theorem kc_RD_leadOn (l : Launch) (B : Nat) (D : va_G) (G : Nat → Nat) (M : hm_M) (N O : Nat → Nat) (hI : im_R D G N O M) (ex : Nat → Option (Int32 × Int32)) (hX : ex_R B D N O M ex) (bs : List bd_T) (hB : bi_R B D G N O M bs) (key : List Nat) (hs : List (List Nat × List Nat)) (hM : ms_R B D G N O M key hs) (r : rs_T) (hR : rs_R B D N O M r) (hkl : key.length ≤ 48) (hso8 : ∀ k e, ex k = some e → 0 ≤ e.1.toInt ∧ e.1.toInt ≤ 3) (x : Int32) : Met l yy_RD_leadOn ws_RD_leadOn ({ frames := 8, cells := 0, slots := 0, locals := 190 }) (hm_Pc B D G M [.ref (N 0), .int x]) (hm_Nv B D (fun M1 => rs_R B D N O M1 (ld_r ex bs key hs r x) ∧ cz_F O M O M1 (cg 6))) (0) (0) (hm_A B) := by
  refine Met.ofW (cc := cd_RD_leadOn) (maxL := 6) (ret := none) (by decide) rfl ?_
  intro p e s m args below meth c s₁ B0 hml hv
  obtain ⟨rfl, hE, hP⟩ := hv
  have hx := B0.exec
  have hb := B0.bytes
  have hr := B0.returns
  have hts : ∀ w ∈ tb_G, w.before _ s = true := fun w h => atoms_spec (ws := ws_RD_leadOn) B0.pre w (List.mem_cons_of_mem _ h)
  have hown : s.vm.findClass "RouteDesk" = some m.cls := findClass_of_methodNamed B0.named
  have hlocks := B0.notSynchronized
  have hRf : (headSpec ws_RD_leadOn { frames := 8, cells := 0, slots := 0, locals := 190 }).room.frames = 8 := rfl
  have hRl : (headSpec ws_RD_leadOn { frames := 8, cells := 0, slots := 0, locals := 190 }).room.locals = 190 := rfl
  have hRc : (headSpec ws_RD_leadOn { frames := 8, cells := 0, slots := 0, locals := 190 }).room.cells = 0 := rfl
  have hRs : (headSpec ws_RD_leadOn { frames := 8, cells := 0, slots := 0, locals := 190 }).room.slots = 0 := rfl
  generalize (headSpec ws_RD_leadOn { frames := 8, cells := 0, slots := 0, locals := 190 }).room = R at hRf hRl hRc hRs ⊢
  have hS : va_S (hm_A B) s.heap s.heap [] := va_S.rf
  have hl := lv_entry ([.ref (N 0), .int x]) (n := 6) (Nat.le_of_ble_eq_true rfl)
  rw [lg_entry_eq]
  generalize (lg_sl ([.ref (N 0), .int x]) ++ List.replicate (6 - (lg_sl ([.ref (N 0), .int x])).length) Slot.unset).toArray = ls at hl ⊢
  have hl : lv_has ls 6 [(0, .ref (N 0)), (1, .int x)] := hl
  have t16 : (nI 16).toInt = 16 := by decide
  have tm1 : (-1 : Int32).toInt = -1 := by decide
  have t0 : (nI 0).toInt = 0 := by decide
  have t2 : (nI 2).toInt = 2 := by decide
  have t3 : (nI 3).toInt = 3 := by decide
  obtain ⟨f, x1, x2, x3, x4⟩ := id hX
  obtain ⟨d, xs, b1, b2, b3, b4, b5, b6, b7⟩ := id hB
  obtain ⟨n4, f4, mo4, bb1, bb2, bb3⟩ := id b1
  obtain ⟨r1, r2, r3, r4, ⟨ro1, ro2, ro3, ro4⟩, ⟨rb1, rb2, rb3, rb4⟩⟩ := id hR
  have rp := qu_le r.1
  have rf := qu_le r.2.2
  refine lv_aload_n hx hb dd_RD_leadOn_0 rfl (lv_at hl 0 rfl) ?_
  refine lv_iload_n hx hb dd_RD_leadOn_1 rfl (lv_at hl 1 rfl) ?_
  refine hm_cq hS (hm_rV 1 (As := [.int x]) (rest := []) ⟨hx, hb, hml, hown, hts⟩ hE hS hP (kc_RD_exchangeAt l B D G M N O hI ex f ⟨x1, x2, x3, x4⟩ x) rfl hI.o tw_319 tw_316 tw_318 tw_0 tw_36 (by decide +kernel) rfl rfl ⟨by show 0 + 1 ≤ R.frames; omega, by show 8 + (2 + 11) + 0 ≤ R.locals; omega⟩ rfl hl.1 rfl (Nat.le_of_ble_eq_true rfl) dd_RD_leadOn_2 ⟨by omega, by omega⟩) (fun r1 M2 H locs hw3 hP hS => ?_)
  refine W.widen (k := 0) (n := 0) (by omega) (by omega) ?_
  obtain ⟨eM2, qM2⟩ := hw3
  rw [eM2] at hP
  rcases qM2 with ⟨he, rfl⟩ | ⟨a, s9, o9, he, rfl, he2, he3, he4, he5, he6⟩
  · refine lv_astore_nN (lv' := [(2, .null), (0, .ref (N 0)), (1, .int x)]) hx hb dd_RD_leadOn_5 rfl hl (by decide) rfl (fun ls hl => ?_)
    refine lv_aload_nN hx hb dd_RD_leadOn_6 rfl (lv_at hl 0 rfl) ?_
    refine lv_ifnonnullN hx hb dd_RD_leadOn_7 ?_
    exact hm_Ev hx hb hr hS hP (⟨by rw [ld_r, he]; exact hR, cz_F.rf⟩) hlocks (by omega) (by omega) dd_RD_leadOn_10
  · refine lv_astore_n (lv' := [(2, .ref a), (0, .ref (N 0)), (1, .int x)]) hx hb dd_RD_leadOn_5 rfl hl (by decide) rfl (fun ls hl => ?_)
    refine lv_aload_n hx hb dd_RD_leadOn_6 rfl (lv_at hl 0 rfl) ?_
    refine lv_ifnonnull (tgt := 11) hx hb dd_RD_leadOn_7 (by decide) ?_
    refine lv_iconst (v := nI 0) hx hb dd_RD_leadOn_11 (by decide +kernel) ?_
    refine lv_istore_n (lv' := [(3, .int (nI 0)), (2, .ref a), (0, .ref (N 0)), (1, .int x)]) hx hb dd_RD_leadOn_12 rfl hl (by decide) rfl (fun ls hl => ?_)
    have hso : 0 ≤ s9.toInt ∧ s9.toInt ≤ 3 := hso8 x.toInt.toNat (s9, o9) (by rw [← ex_in (ex := ex) he5]; exact he)
    refine lv_iconst (v := nI 0) hx hb dd_RD_leadOn_13 (by decide +kernel) ?_
    refine lv_istore (lv' := [(4, .int (nI 0)), (3, .int (nI 0)), (2, .ref a), (0, .ref (N 0)), (1, .int x)]) hx hb dd_RD_leadOn_14 hl (by decide) rfl (fun ls hl => ?_)
    have lp16 : ∀ (n9 : Nat) (k : Nat) (an : Bool) (Mu : hm_M) (ra : rs_T), (k ≤ bs.length) → (cz_F O M O Mu (cg 6)) → (rs_R B D N O Mu ra) → (ra = rs_l (ld_P key hs x s9) (bs.take k) r) → (an = (bs.take k).any (ld_P key hs x s9)) → bs.length - k < n9 → ∀ (H : Heap) (locs : List Loc) (ls : Array Slot), hm_P D cl_W Mu H → va_S (hm_A B) s.heap H locs → lv_has ls 6 [(0, .ref (N 0)), (1, .int x), (2, .ref a), (3, .int (nI (bz an))), (4, .int (nI k))] → W p l e R s m ([.ref (N 0), .int x] : List Value).toArray below meth c H locs (0) (0) (MQ below (hm_Nv B D (fun M1 => rs_R B D N O M1 (ld_r ex bs key hs r x) ∧ cz_F O M O M1 (cg 6))) ([.ref (N 0), .int x] : List Value).toArray s (0) (0) (hm_A B)) (F0 m 16 ls []) := by
      intro n9
      induction n9 with
      | zero => intro k an Mu ra hk hF9 hr9 hrr han hm; exact absurd hm (Nat.not_lt_zero _)
      | succ n9 ih16 =>
        intro k an Mu ra hk hF9 hr9 hrr han hm H locs ls hP hS hl
        have hIo := hI
        have hI := hI.kept hF9 (cg_0 (by decide))
        have hX := hX.kept hF9 (fun c h9 => cg_n h9 (by decide))
        have hM := hM.kept hF9 hIo (fun c h9 => cg_n h9 (by decide)) (cg_0 (by decide))
        have hB := hB.kept hF9 hIo (fun c h9 => cg_n h9 (by decide)) (cg_0 (by decide))
        have hR := hr9
        have he2 : Mu a = some (.inr (2, [.int s9, .int o9])) := (hF9 _ _ he2).2.1 (by rw [he3]; exact fun h9 => by unfold cg at h9; obtain ⟨q1, q2⟩ := he5; omega)
        obtain ⟨d, xs, b1, b2, b3, b4, b5, b6, b7⟩ := id hB
        obtain ⟨n4, f4, mo4, bb1, bb2, bb3⟩ := id b1
        obtain ⟨r1, r2, r3, r4, ⟨ro1, ro2, ro3, ro4⟩, ⟨rb1, rb2, rb3, rb4⟩⟩ := id hR
        have rp := qu_le ra.1
        have rf := qu_le ra.2.2
        obtain ⟨f, x1, x2, x3, x4⟩ := id hX
        refine lv_iload hx hb dd_RD_leadOn_16 (lv_at hl 4 rfl) ?_
        refine lv_aload_n hx hb dd_RD_leadOn_18 rfl (lv_at hl 0 rfl) ?_
        refine hm_get (ci := 0) (C := rn_RD) (T := ft_RD) (N := 6) hx hb hts fi_RD hown hE.K hP hI.o rfl 3 (by decide) (hts _ tw_187) (fun _ h9 => h9) rfl dd_RD_leadOn_19 ?_
        refine hm_ci hS (hm_rV 0 (As := []) (rest := [.int (nI k)]) ⟨hx, hb, hml, hown, hts⟩ hE hS hP (kc_AL_size l B D G Mu 1 (N 4) xs b1.L) rfl bb1 tw_331 tw_328 tw_329 tw_330 tw_43 (by decide +kernel) rfl rfl ⟨by show 0 + 1 ≤ R.frames; omega, by show 8 + (1 + 11) + 0 ≤ R.locals; omega⟩ rfl hl.1 rfl (Nat.le_of_ble_eq_true rfl) dd_RD_leadOn_22 ⟨by omega, by omega⟩) (fun r4 M5 H locs hw6 hP hS => ?_)
        refine W.widen (k := 0) (n := 0) (by omega) (by omega) ?_
        obtain ⟨rfl, eM5⟩ := hw6
        rw [eM5] at hP
        refine hn_icmp_ge (tgt := 81) hx hb (by omega) (by omega) dd_RD_leadOn_25 (by decide) (fun c7 => ?_) (fun c7 => ?_)
        · have hk8 : bs.take k = bs := List.take_of_length_le (by omega)
          rw [hk8] at hrr han
          refine lv_iload_n hx hb dd_RD_leadOn_81 rfl (lv_at hl 3 rfl) ?_
          refine hn_if_ne (tgt := 107) hx hb (bz_b _) dd_RD_leadOn_82 (by decide) (fun c8 => ?_) (fun c8 => ?_)
          · have c5 := bz_t (by omega : 0 < bz an)
            exact hm_Ev hx hb hr hS hP (⟨by rw [ld_r, he]; show rs_R B D N O Mu (if _ then _ else _); rw [if_pos (by rw [← han]; exact c5), ← hrr]; exact hr9, hF9⟩) hlocks (by omega) (by omega) dd_RD_leadOn_107
          · have c5 := bz_f (by omega : bz an = 0)
            refine lv_aload_n hx hb dd_RD_leadOn_85 rfl (lv_at hl 0 rfl) ?_
            refine lv_aload_n hx hb dd_RD_leadOn_86 rfl (lv_at hl 2 rfl) ?_
            refine hm_getN (ci := 2) (C := rn_EX) (T := ft_EX) (N := 2) hx hb hts fi_EX hown hE.K hP he2 rfl 1 (by decide) (va_Nw.use rfl (hE.nest 16 rfl)) (fun _ h9 => h9) rfl dd_RD_leadOn_87 ?_
            refine hm_cq hS (hm_rV 1 (As := [.int o9]) (rest := []) ⟨hx, hb, hml, hown, hts⟩ hE hS hP (kc_RD_exchangeAt l B D G Mu N O hI ex f ⟨x1, x2, x3, x4⟩ o9) rfl hI.o tw_319 tw_316 tw_318 tw_0 tw_36 (by decide +kernel) rfl rfl ⟨by show 0 + 1 ≤ R.frames; omega, by show 8 + (2 + 11) + 0 ≤ R.locals; omega⟩ rfl hl.1 rfl (Nat.le_of_ble_eq_true rfl) dd_RD_leadOn_90 ⟨by omega, by omega⟩) (fun r9 M10 H locs hw11 hP hS => ?_)
            refine W.widen (k := 0) (n := 0) (by omega) (by omega) ?_
            obtain ⟨eM10, qM10⟩ := hw11
            rw [eM10] at hP
            rcases qM10 with ⟨hez, rfl⟩ | ⟨az, sz9, oz9, hez, rfl, hez2, hez3, hez4, hez5, hez6⟩
            · refine lv_ifnullN (tgt := 107) hx hb dd_RD_leadOn_93 (by decide) ?_
              exact hm_Ev hx hb hr hS hP (⟨by rw [ld_r, he]; show rs_R B D N O Mu (if _ then _ else if _ then _ else _); rw [if_neg (by rw [← han, c5]; decide), if_neg (by rw [hez]; decide)]; rw [rs_none (by rw [← han]; exact c5)] at hrr; rw [← hrr]; exact hr9, hF9⟩) hlocks (by omega) (by omega) dd_RD_leadOn_107
            · refine lv_ifnull hx hb dd_RD_leadOn_93 ?_
              refine lv_aload_n hx hb dd_RD_leadOn_96 rfl (lv_at hl 0 rfl) ?_
              refine hm_get (ci := 0) (C := rn_RD) (T := ft_RD) (N := 6) hx hb hts fi_RD hown hE.K hP hI.o rfl 5 (by decide) (hts _ tw_189) (fun _ h9 => h9) rfl dd_RD_leadOn_97 ?_
              refine lv_aload_n hx hb dd_RD_leadOn_100 rfl (lv_at hl 2 rfl) ?_
              refine hm_getN (ci := 2) (C := rn_EX) (T := ft_EX) (N := 2) hx hb hts fi_EX hown hE.K hP he2 rfl 1 (by decide) (va_Nw.use rfl (hE.nest 16 rfl)) (fun _ h9 => h9) rfl dd_RD_leadOn_101 ?_
              refine hm_cv hS (hm_rV 1 (As := [.int o9]) (rest := []) ⟨hx, hb, hml, hown, hts⟩ hE hS hP (kc_RT_markPassed l B D G Mu N O ra.1 ra.2.1 ra.2.2 hr9 o9) rfl r1 tw_904 tw_951 tw_902 tw_903 tw_45 (by decide +kernel) rfl rfl ⟨by show 0 + 1 ≤ R.frames; omega, by show 8 + (2 + 11) + 0 ≤ R.locals; omega⟩ rfl hl.1 rfl (Nat.le_of_ble_eq_true rfl) dd_RD_leadOn_104 ⟨by omega, by omega⟩) (fun M13 H locs hw14 hP hS => ?_)
              refine W.widen (k := 0) (n := 0) (by omega) (by omega) ?_
              obtain ⟨kq1, kq2⟩ := hw14
              exact hm_Ev hx hb hr hS hP (⟨by rw [ld_r, he]; show rs_R B D N O _ (if _ then _ else if _ then _ else _); rw [if_neg (by rw [← han, c5]; decide), if_pos (by rw [hez]; rfl)]; rw [rs_none (by rw [← han]; exact c5)] at hrr; rw [← hrr]; exact kq1, hF9.trans kq2⟩) hlocks (by omega) (by omega) dd_RD_leadOn_107
        · refine lv_aload_n hx hb dd_RD_leadOn_28 rfl (lv_at hl 0 rfl) ?_
          refine hm_get (ci := 0) (C := rn_RD) (T := ft_RD) (N := 6) hx hb hts fi_RD hown hE.K hP hI.o rfl 3 (by decide) (hts _ tw_187) (fun _ h9 => h9) rfl dd_RD_leadOn_29 ?_
          refine lv_iload hx hb dd_RD_leadOn_32 (lv_at hl 4 rfl) ?_
          refine hm_cr hS (hm_rV 1 (As := [.int (nI k)]) (rest := []) ⟨hx, hb, hml, hown, hts⟩ hE hS hP (kc_AL_get l B D G Mu 1 (N 4) xs b1.L k (by omega)) rfl bb1 tw_335 tw_332 tw_333 tw_334 tw_43 (by decide +kernel) rfl rfl ⟨by show 2 + 1 ≤ R.frames; omega, by show 8 + (2 + 11) + 43 ≤ R.locals; omega⟩ rfl hl.1 rfl (Nat.le_of_ble_eq_true rfl) dd_RD_leadOn_34 ⟨by omega, by omega⟩) (fun r15 M16 H locs hw17 hP hS => ?_)
          refine W.widen (k := 0) (n := 0) (by omega) (by omega) ?_
          obtain ⟨rfl, eM16⟩ := hw17
          rw [eM16] at hP
          obtain ⟨b, sb9, hb1, hb2, hb3⟩ := bi_get b5 b6 (show k < bs.length by omega)
          obtain ⟨vsb9, hsb9⟩ := tx_o hb3
          refine va_castE hx hb hown (hts _ tw_344) (hm_recv hE.K hP rfl hb2) dd_RD_leadOn_37 ?_
          refine lv_astore (lv' := [(5, .ref (xs.getD k 0)), (0, .ref (N 0)), (1, .int x), (2, .ref a), (3, .int (nI (bz an))), (4, .int (nI k))]) hx hb dd_RD_leadOn_40 hl (by decide) rfl (fun ls hl => ?_)
          refine lv_aload hx hb dd_RD_leadOn_42 (lv_at hl 0 rfl) ?_
          refine hm_getN (ci := 1) (C := rn_BI) (T := ft_BI) (N := 4) hx hb hts fi_BI hown hE.K hP hb2 rfl 0 (by decide) (va_Nw.use rfl (hE.nest 18 rfl)) (fun _ h9 => h9) rfl dd_RD_leadOn_44 ?_
          refine lv_iload_n hx hb dd_RD_leadOn_47 rfl (lv_at hl 2 rfl) ?_
          refine hi_icmp_ne (tgt := 75) hx hb dd_RD_leadOn_48 (by decide) (fun c18 => ?_) (fun c18 => ?_)
          · have hpb : ld_P key hs x s9 b = false := by rw [ld_P, bd_fr, decide_eq_false (hi_ne c18)]; rfl
            refine lv_iinc (v := nI (k + 1)) (lv' := [(4, .int (nI (k + 1))), (5, .ref (xs.getD k 0)), (0, .ref (N 0)), (1, .int x), (2, .ref a), (3, .int (nI (bz an)))]) hx hb dd_RD_leadOn_75 hl (k := 5) rfl (nI_1 k) (by decide) rfl (fun ls hl => ?_)
            refine lv_goto (tgt := 16) hx hb dd_RD_leadOn_78 (by decide) ?_
            exact ih16 (k + 1) an Mu ra (by omega) (hF9) (hr9) (by rw [rs_step hb1, if_neg (by rw [hpb]; decide)]; exact hrr) (by rw [an_step hb1, hpb, Bool.or_false]; exact han) (by omega) _ _ _ hP hS (lv_sub hl [2, 3, 4, 5, 0] rfl)
          · have c1 : bd_fr x b = true := decide_eq_true (hi_eq (by omega : b.1.toInt = x.toInt))
            refine lv_aload_n hx hb dd_RD_leadOn_51 rfl (lv_at hl 1 rfl) ?_
            refine lv_aload_n hx hb dd_RD_leadOn_52 rfl (lv_at hl 3 rfl) ?_
            refine hm_getN (ci := 2) (C := rn_EX) (T := ft_EX) (N := 2) hx hb hts fi_EX hown hE.K hP he2 rfl 0 (by decide) (va_Nw.use rfl (hE.nest 15 rfl)) (fun _ h9 => h9) rfl dd_RD_leadOn_53 ?_
            refine lv_aload hx hb dd_RD_leadOn_56 (lv_at hl 0 rfl) ?_
            refine hm_getN (ci := 1) (C := rn_BI) (T := ft_BI) (N := 4) hx hb hts fi_BI hown hE.K hP hb2 rfl 3 (by decide) (va_Nw.use rfl (hE.nest 21 rfl)) (fun _ h9 => h9) rfl dd_RD_leadOn_58 ?_
            refine hm_ci hS (hm_rV 2 (As := [.int s9, .ref sb9]) (rest := []) ⟨hx, hb, hml, hown, hts⟩ hE hS hP (kc_RD_isMet l B D G Mu N O hI key hs hM s9 hso hkl sb9 b.2.2.2 hb3) rfl hI.o tw_912 tw_909 tw_911 tw_15 tw_36 (by decide +kernel) rfl rfl ⟨by show 7 + 1 ≤ R.frames; omega, by show 8 + (3 + 11) + 168 ≤ R.locals; omega⟩ rfl hl.1 rfl (Nat.le_of_ble_eq_true rfl) dd_RD_leadOn_61 ⟨by omega, by omega⟩) (fun r19 M20 H locs hw21 hP hS => ?_)
            refine W.widen (k := 0) (n := 0) (by omega) (by omega) ?_
            obtain ⟨rfl, eM20⟩ := hw21
            rw [eM20] at hP
            refine hn_if_eq (tgt := 75) hx hb (bz_b _) dd_RD_leadOn_64 (by decide) (fun c22 => ?_) (fun c22 => ?_)
            · have hpb : ld_P key hs x s9 b = false := by rw [ld_P, bz_f c22, Bool.and_false]
              refine lv_iinc (v := nI (k + 1)) (lv' := [(4, .int (nI (k + 1))), (5, .ref (xs.getD k 0)), (0, .ref (N 0)), (1, .int x), (2, .ref a), (3, .int (nI (bz an)))]) hx hb dd_RD_leadOn_75 hl (k := 5) rfl (nI_1 k) (by decide) rfl (fun ls hl => ?_)
              refine lv_goto (tgt := 16) hx hb dd_RD_leadOn_78 (by decide) ?_
              exact ih16 (k + 1) an Mu ra (by omega) (hF9) (hr9) (by rw [rs_step hb1, if_neg (by rw [hpb]; decide)]; exact hrr) (by rw [an_step hb1, hpb, Bool.or_false]; exact han) (by omega) _ _ _ hP hS (lv_sub hl [2, 3, 4, 5, 0] rfl)
            · have hpb : ld_P key hs x s9 b = true := by rw [ld_P, bz_t c22, c1]; rfl
              refine lv_iconst (v := nI 1) hx hb dd_RD_leadOn_67 (by decide +kernel) ?_
              refine lv_istore_n (lv' := [(3, .int (nI 1)), (5, .ref (xs.getD k 0)), (0, .ref (N 0)), (1, .int x), (2, .ref a), (4, .int (nI k))]) hx hb dd_RD_leadOn_68 rfl hl (by decide) rfl (fun ls hl => ?_)
              refine lv_aload_n hx hb dd_RD_leadOn_69 rfl (lv_at hl 2 rfl) ?_
              refine lv_aload hx hb dd_RD_leadOn_70 (lv_at hl 1 rfl) ?_
              refine hm_cv hS (hm_rV 1 (As := [.ref (xs.getD k 0)]) (rest := []) ⟨hx, hb, hml, hown, hts⟩ hE hS hP (kc_RD_follow l B D G Mu N O hI ra hR b (xs.getD k 0) sb9 hb2) rfl hI.o tw_946 tw_943 tw_945 tw_16 tw_36 (by decide +kernel) rfl rfl ⟨by show 1 + 1 ≤ R.frames; omega, by show 8 + (2 + 11) + 21 ≤ R.locals; omega⟩ rfl hl.1 rfl (Nat.le_of_ble_eq_true rfl) dd_RD_leadOn_72 ⟨by omega, by omega⟩) (fun M24 H locs hw25 hP hS => ?_)
              refine W.widen (k := 0) (n := 0) (by omega) (by omega) ?_
              obtain ⟨kq1, kq2⟩ := hw25
              refine lv_iinc (v := nI (k + 1)) (lv' := [(4, .int (nI (k + 1))), (3, .int (nI 1)), (5, .ref (xs.getD k 0)), (0, .ref (N 0)), (1, .int x), (2, .ref a)]) hx hb dd_RD_leadOn_75 hl (k := 5) rfl (nI_1 k) (by decide) rfl (fun ls hl => ?_)
              refine lv_goto (tgt := 16) hx hb dd_RD_leadOn_78 (by decide) ?_
              exact ih16 (k + 1) true M24 (rs_w ra b) (by omega) (hF9.trans kq2) (kq1) (by rw [rs_step hb1, if_pos hpb, ← hrr]) (by rw [an_step hb1, hpb, Bool.or_true]) (by omega) _ _ _ hP hS (lv_sub hl [3, 4, 5, 1, 0] rfl)
    exact lp16 _ 0 false M r (Nat.zero_le _) (cz_F.rf) (hR) (rfl) (rfl) (Nat.lt_succ_self _) _ _ _ hP hS (lv_sub hl [3, 4, 2, 1, 0] rfl)
