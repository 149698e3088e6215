/-! remove -/
def rm_p (x : Int32) (q : Bool) (b : bd_T) : Bool := bd_to x q b || (!q && bd_fr x b)
def rm_b (ex : Nat → Option (Int32 × Int32)) (qs : Nat → Bool) (bs : List bd_T) (x : Int32) (q : Bool) : List bd_T := if th_at ex qs x q = true then bs.filter (fun b => !rm_p x q b) else bs
def rm_e (ex : Nat → Option (Int32 × Int32)) (qs : Nat → Bool) (x : Int32) (q : Bool) : Nat → Option (Int32 × Int32) := if th_at ex qs x q = true ∧ q = false then va_up ex x.toInt.toNat none else ex
def rm_q (ex : Nat → Option (Int32 × Int32)) (qs : Nat → Bool) (x : Int32) (q : Bool) : Nat → Bool := if th_at ex qs x q = true ∧ q = true then va_up qs x.toInt.toNat false else qs
def cg24 (c : Nat) : Prop := 2 ≤ c / 100 ∧ c / 100 ≤ 4
theorem rm_get {P : bd_T → Bool} {bs F : List bd_T} {k : Nat} {b : bd_T} (hk : 0 < k) (hkn : k ≤ bs.length) (h : (bs.take k ++ F)[k - 1]? = some b) : bs[k - 1]? = some b := by
  rw [List.getElem?_append_left (by rw [List.length_take]; omega), List.getElem?_take, if_pos (by omega)] at h
  exact h
theorem rm_cut {bs : List bd_T} {k : Nat} {b : bd_T} (hk : 0 < k) (h : bs[k - 1]? = some b) : bs.take k = bs.take (k - 1) ++ [b] ∧ bs.drop (k - 1) = b :: bs.drop k := by
  have hl := (List.getElem?_eq_some_iff.mp h).1
  constructor
  · have e : k = (k - 1) + 1 := by omega
    conv => lhs; rw [e, List.take_add_one, h]
    rfl
  · rw [List.drop_eq_getElem_cons hl, show k - 1 + 1 = k by omega]
    rw [List.getElem?_eq_getElem hl] at h
    rw [Option.some.inj h]
theorem rm_keep {P : bd_T → Bool} {bs : List bd_T} {k : Nat} {b : bd_T} (hk : 0 < k) (h : bs[k - 1]? = some b) (hp : P b = true) : bs.take k ++ (bs.drop k).filter P = bs.take (k - 1) ++ (bs.drop (k - 1)).filter P := by
  obtain ⟨h1, h2⟩ := rm_cut hk h
  rw [h1, h2, List.filter_cons, if_pos hp, List.append_assoc]
  rfl
theorem rm_drop {P : bd_T → Bool} {bs : List bd_T} {k : Nat} {b : bd_T} (hk : 0 < k) (h : bs[k - 1]? = some b) (hp : P b = false) : (bs.take k ++ (bs.drop k).filter P).eraseIdx (k - 1) = bs.take (k - 1) ++ (bs.drop (k - 1)).filter P := by
  have hl := (List.getElem?_eq_some_iff.mp h).1
  obtain ⟨h1, h2⟩ := rm_cut hk h
  have e : (bs.take (k - 1)).length = k - 1 := by rw [List.length_take]; omega
  rw [h1, h2, List.filter_cons, if_neg (by rw [hp]; decide), List.append_assoc, List.eraseIdx_append_of_length_le (by omega), e, Nat.sub_self]
  rfl
theorem ex_clr {B : Nat} {D : va_G} {N O : Nat → Nat} {M M1 : hm_M} {ex : Nat → Option (Int32 × Int32)} {f : Nat → Option Nat} {j : Nat} (h : ex_D B D N O M ex f) (e1 : M1 = hm_up M (N 2) (.inl (D.1 105, 16, .inr (.inr (.inr (.inr (va_up f j none))))))) : ex_R B D N O M1 (va_up ex j none) := by
  obtain ⟨h1, h2, h3, h4⟩ := h
  refine ⟨va_up f j none, by rw [e1]; exact hm_up_s, h2, h3, fun k hk => ?_⟩
  by_cases e : k = j
  · subst e; rw [va_up_self, va_up_self]; exact Or.inl ⟨rfl, rfl⟩
  · rw [va_up_ne _ _ e, va_up_ne _ _ e]
    rcases h4 k hk with h9 | ⟨a2, s2, o2, g1, g2, g3, g4, g5⟩
    · exact Or.inl h9
    · exact Or.inr ⟨a2, s2, o2, g1, g2, by rw [e1]; exact hm_up_o (hm_ne g3 h1 (by intro h9; cases h9)) g3, g4, g5⟩
theorem th_in {ex : Nat → Option (Int32 × Int32)} {qs : Nat → Bool} {x : Int32} {q : Bool} (h : th_at ex qs x q = true) : in16 x := by
  unfold th_at at h
  split at h
  · unfold qu_at at h
    exact of_decide_eq_true (Bool.and_eq_true_iff.mp h).1
  · unfold ex_at at h
    by_cases h2 : in16 x
    · exact h2
    · rw [if_neg h2] at h; cases h

set_option maxHeartbeats 4000000 in
set_option maxRecDepth 100000 in
theorem kc_RD_remove (l : Launch) (B : Nat) (D : va_G) (G : Nat → Nat) (M : hm_M) (N O : Nat → Nat) (hI : im_R D G N O M) (ex : Nat → Option (Int32 × Int32)) (hX : ex_R B D N O M ex) (qs : Nat → Bool) (hQ : qu_R B D N O M qs) (bs : List bd_T) (hB : bi_R B D G N O M bs) (x : Int32) (q : Bool) : Met l yy_RD_remove ws_RD_remove ({ frames := 3, cells := 0, slots := 0, locals := 86 }) (hm_Pc B D G M [.ref (N 0), .int x, .int (nI (bz q))]) (hm_Ni B D (fun r M1 => r = nI (bz (th_at ex qs x q)) ∧ ex_R B D N O M1 (rm_e ex qs x q) ∧ qu_R B D N O M1 (rm_q ex qs x q) ∧ bi_R B D G N O M1 (rm_b ex qs bs x q) ∧ cz_F O M O M1 cg24)) (0) (0) (hm_A B) := by
  refine Met.ofW (cc := cd_RD_remove) (maxL := 5) (ret := ((some FieldType.boolean))) (by decide) rfl ?_
  intro p e s m args below meth c s₁ B0 hml hv
  obtain ⟨rfl, hE, hP⟩ := hv
  have hx := B0.exec
  have hb := B0.bytes
  have hr := B0.returns
  have hts : ∀ w ∈ tb_G, w.before _ s = true := fun w h => atoms_spec (ws := ws_RD_remove) B0.pre w (List.mem_cons_of_mem _ h)
  have hown : s.vm.findClass "RouteDesk" = some m.cls := findClass_of_methodNamed B0.named
  have hlocks := B0.notSynchronized
  have hRf : (headSpec ws_RD_remove { frames := 3, cells := 0, slots := 0, locals := 86 }).room.frames = 3 := rfl
  have hRl : (headSpec ws_RD_remove { frames := 3, cells := 0, slots := 0, locals := 86 }).room.locals = 86 := rfl
  have hRc : (headSpec ws_RD_remove { frames := 3, cells := 0, slots := 0, locals := 86 }).room.cells = 0 := rfl
  have hRs : (headSpec ws_RD_remove { frames := 3, cells := 0, slots := 0, locals := 86 }).room.slots = 0 := rfl
  generalize (headSpec ws_RD_remove { frames := 3, cells := 0, slots := 0, locals := 86 }).room = R at hRf hRl hRc hRs ⊢
  have hS : va_S (hm_A B) s.heap s.heap [] := va_S.rf
  have hl := lv_entry ([.ref (N 0), .int x, .int (nI (bz q))]) (n := 5) (Nat.le_of_ble_eq_true rfl)
  rw [lg_entry_eq]
  generalize (lg_sl ([.ref (N 0), .int x, .int (nI (bz q))]) ++ List.replicate (5 - (lg_sl ([.ref (N 0), .int x, .int (nI (bz q))])).length) Slot.unset).toArray = ls at hl ⊢
  have hl : lv_has ls 5 [(0, .ref (N 0)), (1, .int x), (2, .int (nI (bz q)))] := hl
  have t16 : (nI 16).toInt = 16 := by decide
  have tm1 : (-1 : Int32).toInt = -1 := by decide
  have t0 : (nI 0).toInt = 0 := by decide
  have t2 : (nI 2).toInt = 2 := by decide
  have t3 : (nI 3).toInt = 3 := by decide
  obtain ⟨f, x1, x2, x3, x4⟩ := id hX
  obtain ⟨d, xs, b1, b2, b3, b4, b5, b6, b7⟩ := id hB
  obtain ⟨n4, f4, mo4, bb1, bb2, bb3⟩ := id b1
  refine lv_aload_n hx hb dd_RD_remove_0 rfl (lv_at hl 0 rfl) ?_
  refine lv_iload_n hx hb dd_RD_remove_1 rfl (lv_at hl 1 rfl) ?_
  refine lv_iload_n hx hb dd_RD_remove_2 rfl (lv_at hl 2 rfl) ?_
  refine hm_ci hS (hm_rV 2 (As := [.int x, .int (nI (bz q))]) (rest := []) ⟨hx, hb, hml, hown, hts⟩ hE hS hP (kc_RD_isThere l B D G M N O hI ex hX qs hQ x q) rfl hI.o tw_327 tw_324 tw_326 tw_1 tw_36 (by decide +kernel) rfl rfl ⟨by show 1 + 1 ≤ R.frames; omega, by show 8 + (3 + 11) + 21 ≤ R.locals; omega⟩ rfl hl.1 rfl (Nat.le_of_ble_eq_true rfl) dd_RD_remove_3 ⟨by omega, by omega⟩) (fun r1 M2 H locs hw3 hP hS => ?_)
  refine W.widen (k := 0) (n := 0) (by omega) (by omega) ?_
  obtain ⟨rfl, eM2⟩ := hw3
  rw [eM2] at hP
  refine hn_if_ne (tgt := 11) hx hb (bz_b _) dd_RD_remove_6 (by decide) (fun c4 => ?_) (fun c4 => ?_)
  · have hth := bz_t c4
    refine lv_aload_n hx hb dd_RD_remove_11 rfl (lv_at hl 0 rfl) ?_
    refine hm_get (ci := 0) (C := rn_RD) (T := ft_RD) (N := 6) hx hb hts fi_RD hown hE.K hP hI.o rfl 3 (by decide) (hts _ tw_187) (fun _ h9 => h9) rfl dd_RD_remove_12 ?_
    refine hm_ci hS (hm_rV 0 (As := []) (rest := []) ⟨hx, hb, hml, hown, hts⟩ hE hS hP (kc_AL_size l B D G M 1 (N 4) xs b1.L) rfl bb1 tw_331 tw_328 tw_329 tw_330 tw_43 (by decide +kernel) rfl rfl ⟨by show 0 + 1 ≤ R.frames; omega, by show 8 + (1 + 11) + 0 ≤ R.locals; omega⟩ rfl hl.1 rfl (Nat.le_of_ble_eq_true rfl) dd_RD_remove_15 ⟨by omega, by omega⟩) (fun r5 M6 H locs hw7 hP hS => ?_)
    refine W.widen (k := 0) (n := 0) (by omega) (by omega) ?_
    obtain ⟨rfl, eM6⟩ := hw7
    rw [eM6] at hP
    refine lv_iconst (v := nI 1) hx hb dd_RD_remove_18 (by decide +kernel) ?_
    refine lv_isub hx hb dd_RD_remove_19 ?_
    refine lv_topi (fun x8 ex8 => ?_)
    refine lv_istore_n (lv' := [(3, .int x8), (0, .ref (N 0)), (1, .int x), (2, .int (nI (bz q)))]) hx hb dd_RD_remove_20 rfl hl (by decide) rfl (fun ls hl => ?_)
    have lp21 : ∀ (n9 : Nat) (k : Nat) (Mu : hm_M) (y9 : Int32) (bs9 : List bd_T), (k ≤ bs.length) → (y9.toInt = (k : Int) - 1) → (bi_R B D G N O Mu bs9) → (bs9 = bs.take k ++ (bs.drop k).filter (fun b => !rm_p x q b)) → (cz_F O M O Mu (cg 4)) → k < n9 → ∀ (H : Heap) (locs : List Loc) (ls : Array Slot), hm_P D cl_W Mu H → va_S (hm_A B) s.heap H locs → lv_has ls 5 [(0, .ref (N 0)), (1, .int x), (2, .int (nI (bz q))), (3, .int y9)] → W p l e R s m ([.ref (N 0), .int x, .int (nI (bz q))] : List Value).toArray below meth c H locs (0) (0) (MQ below (hm_Ni B D (fun r M1 => r = nI (bz (th_at ex qs x q)) ∧ ex_R B D N O M1 (rm_e ex qs x q) ∧ qu_R B D N O M1 (rm_q ex qs x q) ∧ bi_R B D G N O M1 (rm_b ex qs bs x q) ∧ cz_F O M O M1 cg24)) ([.ref (N 0), .int x, .int (nI (bz q))] : List Value).toArray s (0) (0) (hm_A B)) (F0 m 21 ls []) := by
      intro n9
      induction n9 with
      | zero => intro k Mu y9 bs9 hk hy9 hB9 hbs hF9 hm; exact absurd hm (Nat.not_lt_zero _)
      | succ n9 ih21 =>
        intro k Mu y9 bs9 hk hy9 hB9 hbs hF9 hm H locs ls hP hS hl
        have hIo := hI
        have hI := hI.kept hF9 (cg_0 (by decide))
        have hB := hB9
        obtain ⟨d, xs, b1, b2, b3, b4, b5, b6, b7⟩ := id hB
        obtain ⟨n4, f4, mo4, bb1, bb2, bb3⟩ := id b1
        have hlen : k ≤ bs9.length := by rw [hbs, List.length_append, List.length_take]; omega
        refine lv_iload_n hx hb dd_RD_remove_21 rfl (lv_at hl 3 rfl) ?_
        refine hi_if_lt (tgt := 76) hx hb dd_RD_remove_22 (by decide) (fun c9 => ?_) (fun c9 => ?_)
        · have hk0 : k = 0 := by omega
          subst hk0
          have hX := hX.kept hF9 (fun c h9 => cg_n h9 (by decide))
          have hQ := hQ.kept hF9 (fun c h9 => cg_n h9 (by decide))
          obtain ⟨f, x1, x2, x3, x4⟩ := id hX
          have hin := th_in hth
          obtain ⟨hin1, hin2⟩ := hin
          rw [List.take_zero, List.drop_zero, List.nil_append] at hbs
          subst hbs
          refine lv_iload_n hx hb dd_RD_remove_76 rfl (lv_at hl 2 rfl) ?_
          refine hn_if_eq (tgt := 90) hx hb (bz_b _) dd_RD_remove_77 (by decide) (fun c10 => ?_) (fun c10 => ?_)
          · have hq := bz_f c10
            refine lv_aload_n hx hb dd_RD_remove_90 rfl (lv_at hl 0 rfl) ?_
            refine hm_get (ci := 0) (C := rn_RD) (T := ft_RD) (N := 6) hx hb hts fi_RD hown hE.K hP hI.o rfl 1 (by decide) (hts _ tw_185) (fun _ h9 => h9) rfl dd_RD_remove_91 ?_
            refine lv_iload_n hx hb dd_RD_remove_94 rfl (lv_at hl 1 rfl) ?_
            refine lv_null hx hb dd_RD_remove_95 ?_
            refine hm_aastN (j := x.toInt.toNat) hx hb hE.K hP hS x3 5 x1 rfl (hi_in (by omega) (by omega)) hi_clamp dd_RD_remove_96 (fun H locs hP hS => ?_)
            obtain ⟨M11, eM11⟩ : ∃ z, z = hm_up Mu (N 2) (.inl (D.1 105, 16, .inr (.inr (.inr (.inr (va_up f x.toInt.toNat none)))))) := ⟨_, rfl⟩
            rw [← eM11] at hP
            have f12 : M11 (N 0) = some (.inr (0, [.ref (N 1), .ref (N 2), .ref (N 3), .ref (N 4), .ref (N 5), .ref (N 7)])) := by rw [eM11]; exact hm_up_o (hm_ne hI.o x1 (by intro h9; cases h9)) hI.o
            have f13 : M11 (N 3) = some (.inl (D.1 101, 16, .inl (fun k => nI (bz (qs k))))) := by rw [eM11]; exact hm_up_o (Ne.symm (hm_neO x2 hQ.2.1 (by decide))) hQ.1
            have f14 : M11 (N 2) = some (.inl (D.1 105, 16, .inr (.inr (.inr (.inr (va_up f x.toInt.toNat none)))))) := by rw [eM11]; exact hm_up_s
            refine lv_iconst (v := nI 1) hx hb dd_RD_remove_97 (by decide +kernel) ?_
            have hF2 : cz_F O Mu O M11 (cg 2) := by rw [eM11]; exact cz_F.up (by rw [x2]; rfl)
            exact hm_Ei (v := nI 1) hx hb hr rfl hS hP (⟨by rw [hth]; rfl, by rw [rm_e, if_pos ⟨hth, hq⟩]; exact ex_clr ⟨x1, x2, x3, x4⟩ eM11, by rw [rm_q, if_neg (fun h9 => by rw [hq] at h9; cases h9.2)]; exact hQ.kept hF2 (fun c h9 => cg_n h9 (by decide)), by rw [rm_b, if_pos hth]; exact hB9.kept hF2 hI (fun c h9 => cg_n h9 (by decide)) (cg_0 (by decide)), (hF9.mono (fun c h9 => by unfold cg at h9; unfold cg24; omega)).trans (hF2.mono (fun c h9 => by unfold cg at h9; unfold cg24; omega))⟩) hlocks (by omega) (by omega) dd_RD_remove_98
          · have hq := bz_t c10
            refine lv_aload_n hx hb dd_RD_remove_80 rfl (lv_at hl 0 rfl) ?_
            refine hm_get (ci := 0) (C := rn_RD) (T := ft_RD) (N := 6) hx hb hts fi_RD hown hE.K hP hI.o rfl 2 (by decide) (hts _ tw_186) (fun _ h9 => h9) rfl dd_RD_remove_81 ?_
            refine lv_iload_n hx hb dd_RD_remove_84 rfl (lv_at hl 1 rfl) ?_
            refine lv_iconst (v := nI 0) hx hb dd_RD_remove_85 (by decide +kernel) ?_
            refine hm_zast (y := nI (bz false)) (j := x.toInt.toNat) hx hb hE.K hP hS hQ.2.2 1 hQ.1 rfl (hi_in (by omega) (by omega)) hi_clamp rfl dd_RD_remove_86 (fun H locs hP hS => ?_)
            obtain ⟨M15, eM15⟩ : ∃ z, z = hm_up Mu (N 3) (.inl (D.1 101, 16, .inl (upd (fun k => nI (bz (qs k))) x.toInt.toNat (nI (bz false))))) := ⟨_, rfl⟩
            rw [← eM15] at hP
            have f16 : M15 (N 0) = some (.inr (0, [.ref (N 1), .ref (N 2), .ref (N 3), .ref (N 4), .ref (N 5), .ref (N 7)])) := by rw [eM15]; exact hm_up_o (hm_ne hI.o hQ.1 (by intro h9; cases h9)) hI.o
            have f17 : M15 (N 2) = some (.inl (D.1 105, 16, .inr (.inr (.inr (.inr f))))) := by rw [eM15]; exact hm_up_o (hm_neO x2 hQ.2.1 (by decide)) x1
            have f18 : M15 (N 3) = some (.inl (D.1 101, 16, .inl (upd (fun k => nI (bz (qs k))) x.toInt.toNat (nI (bz false))))) := by rw [eM15]; exact hm_up_s
            refine lv_goto (tgt := 97) hx hb dd_RD_remove_87 (by decide) ?_
            refine lv_iconst (v := nI 1) hx hb dd_RD_remove_97 (by decide +kernel) ?_
            have hF2 : cz_F O Mu O M15 (cg 3) := by rw [eM15]; exact cz_F.up (by rw [hQ.2.1]; rfl)
            exact hm_Ei (v := nI 1) hx hb hr rfl hS hP (⟨by rw [hth]; rfl, by rw [rm_e, if_neg (fun h9 => by rw [hq] at h9; cases h9.2)]; exact hX.kept hF2 (fun c h9 => cg_n h9 (by decide)), by rw [rm_q, if_pos ⟨hth, hq⟩]; exact ⟨by rw [← bz_up]; exact f18, hQ.2⟩, by rw [rm_b, if_pos hth]; exact hB9.kept hF2 hI (fun c h9 => cg_n h9 (by decide)) (cg_0 (by decide)), (hF9.mono (fun c h9 => by unfold cg at h9; unfold cg24; omega)).trans (hF2.mono (fun c h9 => by unfold cg at h9; unfold cg24; omega))⟩) hlocks (by omega) (by omega) dd_RD_remove_98
        · obtain rfl : y9 = nI (k - 1) := by
            have h9 := hi_nI (x := y9) (by omega)
            rw [h9, show y9.toInt.toNat = k - 1 by omega]
          refine lv_aload_n hx hb dd_RD_remove_25 rfl (lv_at hl 0 rfl) ?_
          refine hm_get (ci := 0) (C := rn_RD) (T := ft_RD) (N := 6) hx hb hts fi_RD hown hE.K hP hI.o rfl 3 (by decide) (hts _ tw_187) (fun _ h9 => h9) rfl dd_RD_remove_26 ?_
          refine lv_iload_n hx hb dd_RD_remove_29 rfl (lv_at hl 3 rfl) ?_
          refine hm_cr hS (hm_rV 1 (As := [.int (nI (k - 1))]) (rest := []) ⟨hx, hb, hml, hown, hts⟩ hE hS hP (kc_AL_get l B D G Mu 1 (N 4) xs b1.L (k - 1) (by omega)) rfl bb1 tw_335 tw_332 tw_333 tw_334 tw_43 (by decide +kernel) rfl rfl ⟨by show 2 + 1 ≤ R.frames; omega, by show 8 + (2 + 11) + 43 ≤ R.locals; omega⟩ rfl hl.1 rfl (Nat.le_of_ble_eq_true rfl) dd_RD_remove_30 ⟨by omega, by omega⟩) (fun r19 M20 H locs hw21 hP hS => ?_)
          refine W.widen (k := 0) (n := 0) (by omega) (by omega) ?_
          obtain ⟨rfl, eM20⟩ := hw21
          rw [eM20] at hP
          obtain ⟨b, s9, hb1, hb2, hb3⟩ := bi_get b5 b6 (show k - 1 < bs9.length by omega)
          have hbk : bs[k - 1]? = some b := rm_get (P := fun _ => true) (by omega) hk (by rw [← hbs]; exact hb1)
          refine va_castE hx hb hown (hts _ tw_344) (hm_recv hE.K hP rfl hb2) dd_RD_remove_33 ?_
          refine lv_astore (lv' := [(4, .ref (xs.getD (k - 1) 0)), (0, .ref (N 0)), (1, .int x), (2, .int (nI (bz q))), (3, .int (nI (k - 1)))]) hx hb dd_RD_remove_36 hl (by decide) rfl (fun ls hl => ?_)
          refine lv_aload hx hb dd_RD_remove_38 (lv_at hl 0 rfl) ?_
          refine lv_iload_n hx hb dd_RD_remove_40 rfl (lv_at hl 2 rfl) ?_
          refine lv_iload_n hx hb dd_RD_remove_41 rfl (lv_at hl 3 rfl) ?_
          refine hm_ci hS (hm_rV 2 (As := [.int x, .int (nI (bz q))]) (rest := []) ⟨hx, hb, hml, hown, hts⟩ hE hS hP (kc_BI_leadsTo l B D G Mu b (xs.getD (k - 1) 0) s9 hb2 x q) rfl hb2 tw_348 tw_345 tw_346 tw_347 tw_64 (by decide +kernel) rfl rfl ⟨by show 0 + 1 ≤ R.frames; omega, by show 8 + (3 + 11) + 0 ≤ R.locals; omega⟩ rfl hl.1 rfl (Nat.le_of_ble_eq_true rfl) dd_RD_remove_42 ⟨by omega, by omega⟩) (fun r22 M23 H locs hw24 hP hS => ?_)
          refine W.widen (k := 0) (n := 0) (by omega) (by omega) ?_
          obtain ⟨rfl, eM23⟩ := hw24
          rw [eM23] at hP
          refine hn_if_ne (tgt := 61) hx hb (bz_b _) dd_RD_remove_45 (by decide) (fun c25 => ?_) (fun c25 => ?_)
          · have hrm : rm_p x q b = true := by rw [rm_p, bz_t c25]; rfl
            refine lv_aload_n hx hb dd_RD_remove_61 rfl (lv_at hl 1 rfl) ?_
            refine hm_get (ci := 0) (C := rn_RD) (T := ft_RD) (N := 6) hx hb hts fi_RD hown hE.K hP hI.o rfl 3 (by decide) (hts _ tw_187) (fun _ h9 => h9) rfl dd_RD_remove_62 ?_
            refine lv_iload_n hx hb dd_RD_remove_65 rfl (lv_at hl 4 rfl) ?_
            refine hm_cr hS (hm_rV 1 (As := [.int (nI (k - 1))]) (rest := []) ⟨hx, hb, hml, hown, hts⟩ hE hS hP (kc_AL_remove l B D G Mu 1 (Or.inl rfl) (N 4) d xs n4 f4 mo4 bb1 bb2 bb3.1 bb3.2.1 bb3.2.2.1 bb3.2.2.2.1 bb3.2.2.2.2 b3 (k - 1) (by omega)) rfl bb1 tw_352 tw_349 tw_350 tw_351 tw_43 (by decide +kernel) rfl rfl ⟨by show 2 + 1 ≤ R.frames; omega, by show 8 + (4 + 11) + 63 ≤ R.locals; omega⟩ rfl hl.1 rfl (Nat.le_of_ble_eq_true rfl) dd_RD_remove_66 ⟨by omega, by omega⟩) (fun r26 M27 H locs hw28 hP hS => ?_)
            refine W.widen (k := 0) (n := 0) (by omega) (by omega) ?_
            obtain ⟨-, kr1, kr2⟩ := hw28
            have hdd : d ≠ G 0 := by
              rcases bb3.2.2.2.2 with h9 | h9
              · have h8 := bb3.2.1; omega
              · exact h9.2.2
            have hFb : cz_F O Mu O M27 (cg 4) := cz_F.k0 kr2 (hm_a2 ⟨by rw [b2]; rfl, kr1.kn.1⟩ ⟨by rw [b4.resolve_left hdd]; rfl, kr1.kn.2⟩)
            have hB8 : bi_R B D G N O M27 (bs9.eraseIdx (k - 1)) := ⟨d, xs.eraseIdx (k - 1), kr1, b2, b3, b4, by rw [List.length_eraseIdx_of_lt (by omega), List.length_eraseIdx_of_lt (by omega), b5], fun j x9 b9 g1 g2 => er_rel b5 (fun j x9 b9 g1 g2 => (b6 j x9 b9 g1 g2).kept hFb (cg_0 (by decide))) j x9 b9 g1 g2, by rw [List.length_eraseIdx_of_lt (by omega)]; omega⟩
            refine lv_pop hx hb dd_RD_remove_69 rfl ?_
            obtain ⟨x29, ex29⟩ : ∃ y : Int32, y = nI (k - 1) + (-1) := ⟨_, rfl⟩
            refine lv_iinc (v := x29) (lv' := [(3, .int x29), (4, .ref (xs.getD (k - 1) 0)), (0, .ref (N 0)), (1, .int x), (2, .int (nI (bz q)))]) hx hb dd_RD_remove_70 hl (k := 4) rfl (by rw [ex29]; rfl) (by decide) rfl (fun ls hl => ?_)
            refine lv_goto (tgt := 21) hx hb dd_RD_remove_73 (by decide) ?_
            exact ih21 (k - 1) M27 x29 (bs9.eraseIdx (k - 1)) (by omega) (by rw [ex29, hi_add (by rw [nI_toInt (by omega)]; show _ ≤ _ + (-1 : Int); omega) (by rw [nI_toInt (by omega)]; show _ + (-1 : Int) < _; omega), nI_toInt (by omega)]; show _ + (-1 : Int) = _; omega) (hB8) (by rw [hbs]; exact rm_drop (by omega) hbk (by rw [hrm]; rfl)) (hF9.trans hFb) (by omega) _ _ _ hP hS (lv_sub hl [2, 3, 4, 0] rfl)
          · have hl9 := bz_f c25
            refine lv_iload_n hx hb dd_RD_remove_48 rfl (lv_at hl 3 rfl) ?_
            refine hn_if_ne (tgt := 70) hx hb (bz_b _) dd_RD_remove_49 (by decide) (fun c30 => ?_) (fun c30 => ?_)
            · have hrm : rm_p x q b = false := by rw [rm_p, hl9, bz_t c30]; rfl
              obtain ⟨x31, ex31⟩ : ∃ y : Int32, y = nI (k - 1) + (-1) := ⟨_, rfl⟩
              refine lv_iinc (v := x31) (lv' := [(3, .int x31), (4, .ref (xs.getD (k - 1) 0)), (0, .ref (N 0)), (1, .int x), (2, .int (nI (bz q)))]) hx hb dd_RD_remove_70 hl (k := 4) rfl (by rw [ex31]; rfl) (by decide) rfl (fun ls hl => ?_)
              refine lv_goto (tgt := 21) hx hb dd_RD_remove_73 (by decide) ?_
              exact ih21 (k - 1) Mu x31 bs9 (by omega) (by rw [ex31, hi_add (by rw [nI_toInt (by omega)]; show _ ≤ _ + (-1 : Int); omega) (by rw [nI_toInt (by omega)]; show _ + (-1 : Int) < _; omega), nI_toInt (by omega)]; show _ + (-1 : Int) = _; omega) (hB9) (by rw [hbs]; exact rm_keep (by omega) hbk (by rw [hrm]; rfl)) (hF9) (by omega) _ _ _ hP hS (lv_sub hl [2, 3, 4, 0] rfl)
            · have hq9 := bz_f c30
              refine lv_aload hx hb dd_RD_remove_52 (lv_at hl 0 rfl) ?_
              refine hm_getN (ci := 1) (C := rn_BI) (T := ft_BI) (N := 4) hx hb hts fi_BI hown hE.K hP hb2 rfl 0 (by decide) (va_Nw.use rfl (hE.nest 18 rfl)) (fun _ h9 => h9) rfl dd_RD_remove_54 ?_
              refine lv_iload_n hx hb dd_RD_remove_57 rfl (lv_at hl 2 rfl) ?_
              refine hi_icmp_ne (tgt := 70) hx hb dd_RD_remove_58 (by decide) (fun c32 => ?_) (fun c32 => ?_)
              · have hrm : rm_p x q b = false := by rw [rm_p, hl9, hq9, bd_fr, decide_eq_false (hi_ne c32)]; rfl
                obtain ⟨x33, ex33⟩ : ∃ y : Int32, y = nI (k - 1) + (-1) := ⟨_, rfl⟩
                refine lv_iinc (v := x33) (lv' := [(3, .int x33), (4, .ref (xs.getD (k - 1) 0)), (0, .ref (N 0)), (1, .int x), (2, .int (nI (bz q)))]) hx hb dd_RD_remove_70 hl (k := 4) rfl (by rw [ex33]; rfl) (by decide) rfl (fun ls hl => ?_)
                refine lv_goto (tgt := 21) hx hb dd_RD_remove_73 (by decide) ?_
                exact ih21 (k - 1) Mu x33 bs9 (by omega) (by rw [ex33, hi_add (by rw [nI_toInt (by omega)]; show _ ≤ _ + (-1 : Int); omega) (by rw [nI_toInt (by omega)]; show _ + (-1 : Int) < _; omega), nI_toInt (by omega)]; show _ + (-1 : Int) = _; omega) (hB9) (by rw [hbs]; exact rm_keep (by omega) hbk (by rw [hrm]; rfl)) (hF9) (by omega) _ _ _ hP hS (lv_sub hl [2, 3, 4, 0] rfl)
              · have hrm : rm_p x q b = true := by rw [rm_p, hl9, hq9, bd_fr, decide_eq_true (hi_eq (by omega : b.1.toInt = x.toInt))]; rfl
                refine lv_aload_n hx hb dd_RD_remove_61 rfl (lv_at hl 1 rfl) ?_
                refine hm_get (ci := 0) (C := rn_RD) (T := ft_RD) (N := 6) hx hb hts fi_RD hown hE.K hP hI.o rfl 3 (by decide) (hts _ tw_187) (fun _ h9 => h9) rfl dd_RD_remove_62 ?_
                refine lv_iload_n hx hb dd_RD_remove_65 rfl (lv_at hl 4 rfl) ?_
                refine hm_cr hS (hm_rV 1 (As := [.int (nI (k - 1))]) (rest := []) ⟨hx, hb, hml, hown, hts⟩ hE hS hP (kc_AL_remove l B D G Mu 1 (Or.inl rfl) (N 4) d xs n4 f4 mo4 bb1 bb2 bb3.1 bb3.2.1 bb3.2.2.1 bb3.2.2.2.1 bb3.2.2.2.2 b3 (k - 1) (by omega)) rfl bb1 tw_352 tw_349 tw_350 tw_351 tw_43 (by decide +kernel) rfl rfl ⟨by show 2 + 1 ≤ R.frames; omega, by show 8 + (4 + 11) + 63 ≤ R.locals; omega⟩ rfl hl.1 rfl (Nat.le_of_ble_eq_true rfl) dd_RD_remove_66 ⟨by omega, by omega⟩) (fun r34 M35 H locs hw36 hP hS => ?_)
                refine W.widen (k := 0) (n := 0) (by omega) (by omega) ?_
                obtain ⟨-, kr1, kr2⟩ := hw36
                have hdd : d ≠ G 0 := by
                  rcases bb3.2.2.2.2 with h9 | h9
                  · have h8 := bb3.2.1; omega
                  · exact h9.2.2
                have hFb : cz_F O Mu O M35 (cg 4) := cz_F.k0 kr2 (hm_a2 ⟨by rw [b2]; rfl, kr1.kn.1⟩ ⟨by rw [b4.resolve_left hdd]; rfl, kr1.kn.2⟩)
                have hB8 : bi_R B D G N O M35 (bs9.eraseIdx (k - 1)) := ⟨d, xs.eraseIdx (k - 1), kr1, b2, b3, b4, by rw [List.length_eraseIdx_of_lt (by omega), List.length_eraseIdx_of_lt (by omega), b5], fun j x9 b9 g1 g2 => er_rel b5 (fun j x9 b9 g1 g2 => (b6 j x9 b9 g1 g2).kept hFb (cg_0 (by decide))) j x9 b9 g1 g2, by rw [List.length_eraseIdx_of_lt (by omega)]; omega⟩
                refine lv_pop hx hb dd_RD_remove_69 rfl ?_
                obtain ⟨x37, ex37⟩ : ∃ y : Int32, y = nI (k - 1) + (-1) := ⟨_, rfl⟩
                refine lv_iinc (v := x37) (lv' := [(3, .int x37), (4, .ref (xs.getD (k - 1) 0)), (0, .ref (N 0)), (1, .int x), (2, .int (nI (bz q)))]) hx hb dd_RD_remove_70 hl (k := 4) rfl (by rw [ex37]; rfl) (by decide) rfl (fun ls hl => ?_)
                refine lv_goto (tgt := 21) hx hb dd_RD_remove_73 (by decide) ?_
                exact ih21 (k - 1) M35 x37 (bs9.eraseIdx (k - 1)) (by omega) (by rw [ex37, hi_add (by rw [nI_toInt (by omega)]; show _ ≤ _ + (-1 : Int); omega) (by rw [nI_toInt (by omega)]; show _ + (-1 : Int) < _; omega), nI_toInt (by omega)]; show _ + (-1 : Int) = _; omega) (hB8) (by rw [hbs]; exact rm_drop (by omega) hbk (by rw [hrm]; rfl)) (hF9.trans hFb) (by omega) _ _ _ hP hS (lv_sub hl [2, 3, 4, 0] rfl)
    exact lp21 _ bs.length M x8 bs (Nat.le_refl _) (by rw [ex8, hi_sub (by rw [nI_toInt (by omega), nI_toInt (by omega)]; omega) (by rw [nI_toInt (by omega), nI_toInt (by omega)]; omega), nI_toInt (by omega), nI_toInt (by omega)]; omega) (hB) (by rw [List.take_of_length_le (Nat.le_refl _), List.drop_eq_nil_of_le (Nat.le_refl _)]; simp) (cz_F.rf) (Nat.lt_succ_self _) _ _ _ hP hS (lv_sub hl [1, 2, 3, 0] rfl)
  · have hth := bz_f c4
    refine lv_iconst (v := nI 0) hx hb dd_RD_remove_9 (by decide +kernel) ?_
    exact hm_Ei (v := nI 0) hx hb hr rfl hS hP (⟨by rw [hth]; rfl, by rw [rm_e, if_neg (fun h9 => by rw [hth] at h9; cases h9.1)]; exact hX, by rw [rm_q, if_neg (fun h9 => by rw [hth] at h9; cases h9.1)]; exact hQ, by rw [rm_b, if_neg (by rw [hth]; decide)]; exact hB, cz_F.rf⟩) hlocks (by omega) (by omega) dd_RD_remove_10
