/-! alternate, unbind, message -/
def cg2 (g h c : Nat) : Prop := cg g c ∨ cg h c
theorem cg2_l {g h c : Nat} (x : cg g c) : cg2 g h c := Or.inl x
theorem cg2_r {g h c : Nat} (x : cg h c) : cg2 g h c := Or.inr x
theorem cg2_n {g h k c : Nat} (hc : c / 100 = k) (h1 : k ≠ g) (h2 : k ≠ h) : ¬ cg2 g h c := fun e => by
  rcases e with e | e
  · exact cg_n hc h1 e
  · exact cg_n hc h2 e
theorem cg2_0 {g h : Nat} (h1 : 0 < g) (h2 : 0 < h) : ¬ cg2 g h 0 := fun e => by
  rcases e with e | e
  · exact cg_0 h1 e
  · exact cg_0 h2 e
def al_ok (ex : Nat → Option (Int32 × Int32)) (x y : Int32) : Bool := (ex_at ex x).isSome && decide (-1 ≤ y.toInt ∧ y.toInt < 16 ∧ y.toInt ≠ x.toInt)
def al_x (ex : Nat → Option (Int32 × Int32)) (x y : Int32) : Nat → Option (Int32 × Int32) := if al_ok ex x y = true then va_up ex x.toInt.toNat ((ex_at ex x).map (fun e => (e.1, y))) else ex
theorem ex_set {B : Nat} {D : va_G} {N O : Nat → Nat} {M M1 : hm_M} {ex : Nat → Option (Int32 × Int32)} {f : Nat → Option Nat} {j a : Nat} {s o y : Int32} (h : ex_D B D N O M ex f) (hj : j < 16) (ha : M a = some (.inr (2, [.int s, .int o]))) (hO : O a = 201 + j) (hB : B ≤ a) (hf : f j = some a) (e1 : M1 = hm_up M a (.inr (2, [.int s, .int y]))) : ex_D B D N O M1 (va_up ex j (some (s, y))) f := by
  obtain ⟨h1, h2, h3, h4⟩ := h
  refine ⟨?_, h2, h3, fun k hk => ?_⟩
  · rw [e1]; exact hm_up_o (hm_ne h1 ha (by intro h9; cases h9)) h1
  · by_cases e : k = j
    · subst e
      rw [va_up_self]
      exact Or.inr ⟨a, s, y, rfl, hf, by rw [e1]; exact hm_up_s, hO, hB⟩
    · rw [va_up_ne _ _ e]
      rcases h4 k hk with h9 | ⟨a2, s2, o2, g1, g2, g3, g4, g5⟩
      · exact Or.inl h9
      · exact Or.inr ⟨a2, s2, o2, g1, g2, by rw [e1]; exact hm_up_o (fun e2 => e (by rw [e2, hO] at g4; omega)) g3, g4, g5⟩
theorem pl_er {P : bd_T → Bool} {bs : List bd_T} {r : Int32} (h : pl_R P bs r) : (r = -1 ∧ bs.any P = false ∧ bs.eraseP P = bs) ∨ ∃ i, r = nI i ∧ i < bs.length ∧ i < 120 ∧ bs.any P = true ∧ bs.eraseP P = bs.eraseIdx i := by
  rcases h with ⟨i, b, h1, h2, h3, h4, h5⟩ | ⟨h1, h2⟩
  · have hi := (List.getElem?_eq_some_iff.mp h3).1
    refine Or.inr ⟨i, h1, hi, h2, List.any_eq_true.mpr ⟨b, List.mem_of_getElem? h3, h4⟩, ?_⟩
    clear h1 h2 r
    induction bs generalizing i with
    | nil => cases hi
    | cons c bs ih =>
      cases i with
      | zero =>
        simp at h3
        subst h3
        rw [List.eraseP_cons_of_pos h4]; rfl
      | succ i =>
        have hc : P c = false := h5 0 (by omega) c rfl
        rw [List.eraseP_cons_of_neg (by rw [hc]; decide), List.eraseIdx_cons_succ]
        congr 1
        exact ih (i := i) (by simpa using h3) (fun j hj b2 hb2 => h5 (j + 1) (by omega) b2 (by simpa using hb2)) (by simpa using hi)
  · refine Or.inl ⟨h1, List.any_eq_false.mpr (fun b hb => by rw [h2 b hb]; decide), List.eraseP_of_forall_not (fun b hb => by rw [h2 b hb]; decide)⟩
theorem er_rel {xs : List Nat} {bs : List bd_T} {i : Nat} {R : Nat → bd_T → Prop} (h5 : xs.length = bs.length) (h6 : ∀ (j x : Nat) (b : bd_T), xs[j]? = some x → bs[j]? = some b → R x b) : ∀ (j x : Nat) (b : bd_T), (xs.eraseIdx i)[j]? = some x → (bs.eraseIdx i)[j]? = some b → R x b := by
  intro j x b h1 h2
  rw [List.getElem?_eraseIdx] at h1 h2
  split at h1
  · rename_i h; rw [if_pos h] at h2; exact h6 j x b h1 h2
  · rename_i h; rw [if_neg h] at h2; exact h6 (j + 1) x b h1 h2
theorem cz_F.ad {O : Nat → Nat} {M M1 : hm_M} {a d z : Nat} {p : Nat → Prop} (h : ∀ q e, M q = some e → q ≠ a → (q = d → d = z) → M1 q = some e) (ha : p (O a)) (hd : d = z ∨ p (O d)) (ka : ∃ e, M1 a = some e) (kd : ∃ e, M1 d = some e) : cz_F O M O M1 p := fun q e hq => by
  refine ⟨rfl, fun hn => h q e hq (fun e2 => hn (by rw [e2]; exact ha)) (fun e2 => hd.resolve_right (fun h9 => hn (by rw [e2]; exact h9))), ?_⟩
  by_cases h1 : q = a
  · rw [h1]; exact ka
  · by_cases h2 : q = d
    · rw [h2]; exact kd
    · exact ⟨e, h q e hq h1 (fun e2 => absurd e2 h2)⟩
theorem al_D.kn {B : Nat} {D : va_G} {G : Nat → Nat} {M : hm_M} {ci a d : Nat} {xs : List Nat} (h : al_D B D G M ci a d xs) : (∃ e, M a = some e) ∧ ∃ e, M d = some e := by
  obtain ⟨n, f, mo, g1, g2, -⟩ := h
  exact ⟨⟨_, g1⟩, _, g2⟩

set_option maxHeartbeats 4000000 in
set_option maxRecDepth 100000 in
theorem kc_RD_alternate (l : Launch) (B : Nat) (D : va_G) (G : Nat → Nat) (M : hm_M) (N O : Nat → Nat) (hI : im_R D G N O M) (ex : Nat → Option (Int32 × Int32)) (hX : ex_R B D N O M ex) (x y : Int32) : Met l yy_RD_alternate ws_RD_alternate ({ frames := 1, cells := 0, slots := 0, locals := 21 }) (hm_Pc B D G M [.ref (N 0), .int x, .int y]) (hm_Ni B D (fun r M1 => r = nI (bz (al_ok ex x y)) ∧ ex_R B D N O M1 (al_x ex x y) ∧ cz_F O M O M1 (cg 2))) (0) (0) (hm_A B) := by
  refine Met.ofW (cc := cd_RD_alternate) (maxL := 4) (ret := ((some FieldType.boolean))) (by decide) rfl ?_
  intro p e s m args below meth c s₁ B0 hml hv
  obtain ⟨rfl, hE, hP⟩ := hv
  have hx := B0.exec
  have hb := B0.bytes
  have hr := B0.returns
  have hts : ∀ w ∈ tb_G, w.before _ s = true := fun w h => atoms_spec (ws := ws_RD_alternate) B0.pre w (List.mem_cons_of_mem _ h)
  have hown : s.vm.findClass "RouteDesk" = some m.cls := findClass_of_methodNamed B0.named
  have hlocks := B0.notSynchronized
  have hRf : (headSpec ws_RD_alternate { frames := 1, cells := 0, slots := 0, locals := 21 }).room.frames = 1 := rfl
  have hRl : (headSpec ws_RD_alternate { frames := 1, cells := 0, slots := 0, locals := 21 }).room.locals = 21 := rfl
  have hRc : (headSpec ws_RD_alternate { frames := 1, cells := 0, slots := 0, locals := 21 }).room.cells = 0 := rfl
  have hRs : (headSpec ws_RD_alternate { frames := 1, cells := 0, slots := 0, locals := 21 }).room.slots = 0 := rfl
  generalize (headSpec ws_RD_alternate { frames := 1, cells := 0, slots := 0, locals := 21 }).room = R at hRf hRl hRc hRs ⊢
  have hS : va_S (hm_A B) s.heap s.heap [] := va_S.rf
  have hl := lv_entry ([.ref (N 0), .int x, .int y]) (n := 4) (Nat.le_of_ble_eq_true rfl)
  rw [lg_entry_eq]
  generalize (lg_sl ([.ref (N 0), .int x, .int y]) ++ List.replicate (4 - (lg_sl ([.ref (N 0), .int x, .int y])).length) Slot.unset).toArray = ls at hl ⊢
  have hl : lv_has ls 4 [(0, .ref (N 0)), (1, .int x), (2, .int y)] := hl
  have t16 : (nI 16).toInt = 16 := by decide
  have tm1 : (-1 : Int32).toInt = -1 := by decide
  have t0 : (nI 0).toInt = 0 := by decide
  have t2 : (nI 2).toInt = 2 := by decide
  have t3 : (nI 3).toInt = 3 := by decide
  obtain ⟨f, x1, x2, x3, x4⟩ := id hX
  refine lv_aload_n hx hb dd_RD_alternate_0 rfl (lv_at hl 0 rfl) ?_
  refine lv_iload_n hx hb dd_RD_alternate_1 rfl (lv_at hl 1 rfl) ?_
  refine hm_cq hS (hm_rV 1 (As := [.int x]) (rest := []) ⟨hx, hb, hml, hown, hts⟩ hE hS hP (kc_RD_exchangeAt l B D G M N O hI ex f ⟨x1, x2, x3, x4⟩ x) rfl hI.o tw_319 tw_316 tw_318 tw_0 tw_36 (by decide +kernel) rfl rfl ⟨by show 0 + 1 ≤ R.frames; omega, by show 8 + (2 + 11) + 0 ≤ R.locals; omega⟩ rfl hl.1 rfl (Nat.le_of_ble_eq_true rfl) dd_RD_alternate_2 ⟨by omega, by omega⟩) (fun r1 M2 H locs hw3 hP hS => ?_)
  refine W.widen (k := 0) (n := 0) (by omega) (by omega) ?_
  obtain ⟨eM2, qM2⟩ := hw3
  rw [eM2] at hP
  rcases qM2 with ⟨he, rfl⟩ | ⟨a, s9, o9, he, rfl, he2, he3, he4, he5, he6⟩
  · refine lv_astore_nN (lv' := [(3, .null), (0, .ref (N 0)), (1, .int x), (2, .int y)]) hx hb dd_RD_alternate_5 rfl hl (by decide) rfl (fun ls hl => ?_)
    refine lv_aload_nN hx hb dd_RD_alternate_6 rfl (lv_at hl 0 rfl) ?_
    refine lv_ifnullN (tgt := 26) hx hb dd_RD_alternate_7 (by decide) ?_
    refine lv_iconst (v := nI 0) hx hb dd_RD_alternate_26 (by decide +kernel) ?_
    have hno : al_ok ex x y = false := by
      rw [al_ok]
      first
      | (rw [he]; rfl)
      | (rw [decide_eq_false (fun h9 => by obtain ⟨q1, q2, q3⟩ := h9; omega), Bool.and_false])
    exact hm_Ei (v := nI 0) hx hb hr rfl hS hP (⟨bz_0 hno, by rw [al_x, hno, if_neg (by decide)]; exact hX, cz_F.rf⟩) hlocks (by omega) (by omega) dd_RD_alternate_27
  · refine lv_astore_n (lv' := [(3, .ref a), (0, .ref (N 0)), (1, .int x), (2, .int y)]) hx hb dd_RD_alternate_5 rfl hl (by decide) rfl (fun ls hl => ?_)
    refine lv_aload_n hx hb dd_RD_alternate_6 rfl (lv_at hl 0 rfl) ?_
    refine lv_ifnull hx hb dd_RD_alternate_7 ?_
    refine lv_iload_n hx hb dd_RD_alternate_10 rfl (lv_at hl 3 rfl) ?_
    refine lv_iconst (v := (-1)) hx hb dd_RD_alternate_11 (by decide +kernel) ?_
    refine hi_icmp_lt (tgt := 26) hx hb dd_RD_alternate_12 (by decide) (fun c4 => ?_) (fun c4 => ?_)
    · refine lv_iconst (v := nI 0) hx hb dd_RD_alternate_26 (by decide +kernel) ?_
      have hno : al_ok ex x y = false := by
        rw [al_ok]
        first
        | (rw [he]; rfl)
        | (rw [decide_eq_false (fun h9 => by obtain ⟨q1, q2, q3⟩ := h9; omega), Bool.and_false])
      exact hm_Ei (v := nI 0) hx hb hr rfl hS hP (⟨bz_0 hno, by rw [al_x, hno, if_neg (by decide)]; exact hX, cz_F.rf⟩) hlocks (by omega) (by omega) dd_RD_alternate_27
    · refine lv_iload_n hx hb dd_RD_alternate_15 rfl (lv_at hl 3 rfl) ?_
      refine lv_bipush (v := nI 16) hx hb dd_RD_alternate_16 (by decide +kernel) ?_
      refine hi_icmp_ge (tgt := 26) hx hb dd_RD_alternate_18 (by decide) (fun c5 => ?_) (fun c5 => ?_)
      · refine lv_iconst (v := nI 0) hx hb dd_RD_alternate_26 (by decide +kernel) ?_
        have hno : al_ok ex x y = false := by
          rw [al_ok]
          first
          | (rw [he]; rfl)
          | (rw [decide_eq_false (fun h9 => by obtain ⟨q1, q2, q3⟩ := h9; omega), Bool.and_false])
        exact hm_Ei (v := nI 0) hx hb hr rfl hS hP (⟨bz_0 hno, by rw [al_x, hno, if_neg (by decide)]; exact hX, cz_F.rf⟩) hlocks (by omega) (by omega) dd_RD_alternate_27
      · refine lv_iload_n hx hb dd_RD_alternate_21 rfl (lv_at hl 3 rfl) ?_
        refine lv_iload_n hx hb dd_RD_alternate_22 rfl (lv_at hl 2 rfl) ?_
        refine hi_icmp_ne (tgt := 28) hx hb dd_RD_alternate_23 (by decide) (fun c6 => ?_) (fun c6 => ?_)
        · refine lv_aload_n hx hb dd_RD_alternate_28 rfl (lv_at hl 0 rfl) ?_
          refine lv_iload_n hx hb dd_RD_alternate_29 rfl (lv_at hl 3 rfl) ?_
          refine hm_putN (ci := 2) (v := .int y) (ty := .int) (C := rn_EX) (T := ft_EX) (N := 2) hx hb hts fi_EX fy_EX fo_EX fn_EX hown hE.K hP hS he4 he2 rfl 1 (by decide) (va_Nw.use rfl (hE.nest 16 rfl)) (fun _ h9 => h9) rfl (by decide +kernel) rfl rfl (Nat.le_of_ble_eq_true rfl) dd_RD_alternate_30 (fun H locs hP hS => ?_)
          have hP : hm_P D cl_W (hm_up M a (.inr (2, [.int s9, .int y]))) H := hP
          obtain ⟨M7, eM7⟩ : ∃ z, z = hm_up M a (.inr (2, [.int s9, .int y])) := ⟨_, rfl⟩
          rw [← eM7] at hP
          have f8 : M7 (N 0) = some (.inr (0, [.ref (N 1), .ref (N 2), .ref (N 3), .ref (N 4), .ref (N 5), .ref (N 7)])) := by rw [eM7]; exact hm_up_o (hm_ne hI.o he2 (by intro h9; cases h9)) hI.o
          have f9 : M7 (N 2) = some (.inl (D.1 105, 16, .inr (.inr (.inr (.inr f))))) := by rw [eM7]; exact hm_up_o (hm_ne x1 he2 (by intro h9; cases h9)) x1
          have f10 : M7 a = some (.inr (2, [.int s9, .int y])) := by rw [eM7]; exact hm_up_s
          refine lv_iconst (v := nI 1) hx hb dd_RD_alternate_33 (by decide +kernel) ?_
          have hyes : al_ok ex x y = true := by rw [al_ok, he, decide_eq_true ⟨by omega, by omega, by omega⟩]; rfl
          exact hm_Ei (v := nI 1) hx hb hr rfl hS hP (⟨bz_1 hyes, ⟨f, by rw [al_x, hyes, if_pos rfl, he]; exact ex_set ⟨x1, x2, x3, x4⟩ (by obtain ⟨q1, q2⟩ := he5; omega) he2 he3 he4 he6 eM7⟩, by rw [eM7]; exact cz_F.up (by rw [he3]; unfold cg; obtain ⟨q1, q2⟩ := he5; omega)⟩) hlocks (by omega) (by omega) dd_RD_alternate_34
        · refine lv_iconst (v := nI 0) hx hb dd_RD_alternate_26 (by decide +kernel) ?_
          have hno : al_ok ex x y = false := by
            rw [al_ok]
            first
            | (rw [he]; rfl)
            | (rw [decide_eq_false (fun h9 => by obtain ⟨q1, q2, q3⟩ := h9; omega), Bool.and_false])
          exact hm_Ei (v := nI 0) hx hb hr rfl hS hP (⟨bz_0 hno, by rw [al_x, hno, if_neg (by decide)]; exact hX, cz_F.rf⟩) hlocks (by omega) (by omega) dd_RD_alternate_27
set_option maxHeartbeats 4000000 in
set_option maxRecDepth 100000 in
theorem kc_RD_unbind (l : Launch) (B : Nat) (D : va_G) (G : Nat → Nat) (M : hm_M) (N O : Nat → Nat) (hI : im_R D G N O M) (t : List Nat) (hT : tp_R B D N O M t) (bs : List bd_T) (hB : bi_R B D G N O M bs) (x y : Int32) (q : Bool) : Met l yy_RD_unbind ws_RD_unbind ({ frames := 7, cells := 2, slots := 104, locals := 172 }) (hm_Pc B D G M [.ref (N 0), .int x, .int y, .int (nI (bz q))]) (hm_Ni B D (fun r M1 => r = nI (bz (bs.any (bd_is x y q t))) ∧ ∃ O1, tp_R B D N O1 M1 [] ∧ bi_R B D G N O1 M1 (bs.eraseP (bd_is x y q t)) ∧ cz_F O M O1 M1 (cg2 1 4))) (2) (104) (hm_A B) := by
  refine Met.ofW (cc := cd_RD_unbind) (maxL := 5) (ret := ((some FieldType.boolean))) (by decide) rfl ?_
  intro p e s m args below meth c s₁ B0 hml hv
  obtain ⟨rfl, hE, hP⟩ := hv
  have hx := B0.exec
  have hb := B0.bytes
  have hr := B0.returns
  have hts : ∀ w ∈ tb_G, w.before _ s = true := fun w h => atoms_spec (ws := ws_RD_unbind) B0.pre w (List.mem_cons_of_mem _ h)
  have hown : s.vm.findClass "RouteDesk" = some m.cls := findClass_of_methodNamed B0.named
  have hlocks := B0.notSynchronized
  have hRf : (headSpec ws_RD_unbind { frames := 7, cells := 2, slots := 104, locals := 172 }).room.frames = 7 := rfl
  have hRl : (headSpec ws_RD_unbind { frames := 7, cells := 2, slots := 104, locals := 172 }).room.locals = 172 := rfl
  have hRc : (headSpec ws_RD_unbind { frames := 7, cells := 2, slots := 104, locals := 172 }).room.cells = 2 := rfl
  have hRs : (headSpec ws_RD_unbind { frames := 7, cells := 2, slots := 104, locals := 172 }).room.slots = 104 := rfl
  generalize (headSpec ws_RD_unbind { frames := 7, cells := 2, slots := 104, locals := 172 }).room = R at hRf hRl hRc hRs ⊢
  have hS : va_S (hm_A B) s.heap s.heap [] := va_S.rf
  have hl := lv_entry ([.ref (N 0), .int x, .int y, .int (nI (bz q))]) (n := 5) (Nat.le_of_ble_eq_true rfl)
  rw [lg_entry_eq]
  generalize (lg_sl ([.ref (N 0), .int x, .int y, .int (nI (bz q))]) ++ List.replicate (5 - (lg_sl ([.ref (N 0), .int x, .int y, .int (nI (bz q))])).length) Slot.unset).toArray = ls at hl ⊢
  have hl : lv_has ls 5 [(0, .ref (N 0)), (1, .int x), (2, .int y), (3, .int (nI (bz q)))] := hl
  have t16 : (nI 16).toInt = 16 := by decide
  have tm1 : (-1 : Int32).toInt = -1 := by decide
  have t0 : (nI 0).toInt = 0 := by decide
  have t2 : (nI 2).toInt = 2 := by decide
  have t3 : (nI 3).toInt = 3 := by decide
  refine lv_aload_n hx hb dd_RD_unbind_0 rfl (lv_at hl 0 rfl) ?_
  refine lv_iload_n hx hb dd_RD_unbind_1 rfl (lv_at hl 1 rfl) ?_
  refine lv_iload_n hx hb dd_RD_unbind_2 rfl (lv_at hl 2 rfl) ?_
  refine lv_iload_n hx hb dd_RD_unbind_3 rfl (lv_at hl 3 rfl) ?_
  refine lv_aload_n hx hb dd_RD_unbind_4 rfl (lv_at hl 0 rfl) ?_
  refine hm_cr hS (hm_rV 0 (As := []) (rest := [.int (nI (bz q)), .int y, .int x, .ref (N 0)]) ⟨hx, hb, hml, hown, hts⟩ hE hS hP (kc_RD_takeTape l B D G M N O hI t hT) rfl hI.o tw_365 tw_362 tw_364 tw_3 tw_36 (by decide +kernel) rfl rfl ⟨by show 6 + 1 ≤ R.frames; omega, by show 8 + (2 + 11) + 151 ≤ R.locals; omega⟩ rfl hl.1 rfl (Nat.le_of_ble_eq_true rfl) dd_RD_unbind_5 ⟨by omega, by omega⟩) (fun r1 M2 H locs hw3 hP hS => ?_)
  refine W.widen (k := 2) (n := 104) (by omega) (by omega) ?_
  have hIo := hI
  obtain ⟨O, hT, htx, hFa⟩ := hw3
  have hI := hI.kept hFa (cg_0 (by decide))
  have hB := hB.kept hFa hIo (fun c h9 => cg_n h9 (by decide)) (cg_0 (by decide))
  obtain ⟨d, xs, b1, b2, b3, b4, b5, b6, b7⟩ := id hB
  obtain ⟨n4, f4, mo4, bb1, bb2, bb3⟩ := id b1
  obtain ⟨vr1, hr1⟩ := tx_o (cz_tx htx)
  refine hm_ci hS (hm_rV 4 (As := [.int x, .int y, .int (nI (bz q)), .ref r1]) (rest := []) ⟨hx, hb, hml, hown, hts⟩ hE hS hP (kc_RD_placeOf l B D G M2 N O hI bs hB x y q r1 t (cz_tx htx)) rfl hI.o tw_587 tw_584 tw_586 tw_5 tw_36 (by decide +kernel) rfl rfl ⟨by show 3 + 1 ≤ R.frames; omega, by show 8 + (7 + 11) + 64 ≤ R.locals; omega⟩ rfl hl.1 rfl (Nat.le_of_ble_eq_true rfl) dd_RD_unbind_8 ⟨by omega, by omega⟩) (fun r4 M5 H locs hw6 hP hS => ?_)
  refine W.widen (k := 2) (n := 104) (by omega) (by omega) ?_
  obtain ⟨kp, eM5⟩ := hw6
  rw [eM5] at hP
  rcases pl_er kp with ⟨rfl, pa, pe⟩ | ⟨i, rfl, pi, pi2, pa, pe⟩
  · refine lv_istore (lv' := [(4, .int (-1)), (0, .ref (N 0)), (1, .int x), (2, .int y), (3, .int (nI (bz q)))]) hx hb dd_RD_unbind_11 hl (by decide) rfl (fun ls hl => ?_)
    refine lv_iload hx hb dd_RD_unbind_13 (lv_at hl 0 rfl) ?_
    refine hi_if_lt (tgt := 30) hx hb dd_RD_unbind_15 (by decide) (fun c7 => ?_) (fun c7 => absurd c7 (by decide))
    refine lv_iconst (v := nI 0) hx hb dd_RD_unbind_30 (by decide +kernel) ?_
    exact hm_Ei (v := nI 0) hx hb hr rfl hS hP (⟨by rw [pa]; rfl, O, hT, by rw [pe]; exact hB, hFa.mono (fun _ => cg2_l)⟩) hlocks (by omega) (by omega) dd_RD_unbind_31
  · refine lv_istore (lv' := [(4, .int (nI i)), (0, .ref (N 0)), (1, .int x), (2, .int y), (3, .int (nI (bz q)))]) hx hb dd_RD_unbind_11 hl (by decide) rfl (fun ls hl => ?_)
    refine lv_iload hx hb dd_RD_unbind_13 (lv_at hl 0 rfl) ?_
    refine hn_if_lt (tgt := 30) hx hb (by omega) dd_RD_unbind_15 (by decide) ?_
    refine lv_iload hx hb dd_RD_unbind_18 (lv_at hl 0 rfl) ?_
    refine lv_aload_n hx hb dd_RD_unbind_20 rfl (lv_at hl 1 rfl) ?_
    refine hm_get (ci := 0) (C := rn_RD) (T := ft_RD) (N := 6) hx hb hts fi_RD hown hE.K hP hI.o rfl 3 (by decide) (hts _ tw_187) (fun _ h9 => h9) rfl dd_RD_unbind_21 ?_
    refine hm_ci hS (hm_rV 0 (As := []) (rest := [.int (nI i)]) ⟨hx, hb, hml, hown, hts⟩ hE hS hP (kc_AL_size l B D G M2 1 (N 4) xs b1.L) rfl bb1 tw_331 tw_328 tw_329 tw_330 tw_43 (by decide +kernel) rfl rfl ⟨by show 0 + 1 ≤ R.frames; omega, by show 8 + (1 + 11) + 0 ≤ R.locals; omega⟩ rfl hl.1 rfl (Nat.le_of_ble_eq_true rfl) dd_RD_unbind_24 ⟨by omega, by omega⟩) (fun r9 M10 H locs hw11 hP hS => ?_)
    refine W.widen (k := 2) (n := 104) (by omega) (by omega) ?_
    obtain ⟨rfl, eM10⟩ := hw11
    rw [eM10] at hP
    refine hn_icmp_lt (tgt := 32) hx hb (by omega) (by omega) dd_RD_unbind_27 (by decide) (fun c12 => ?_) (fun c12 => absurd c12 (by omega))
    refine lv_aload_n hx hb dd_RD_unbind_32 rfl (lv_at hl 1 rfl) ?_
    refine hm_get (ci := 0) (C := rn_RD) (T := ft_RD) (N := 6) hx hb hts fi_RD hown hE.K hP hI.o rfl 3 (by decide) (hts _ tw_187) (fun _ h9 => h9) rfl dd_RD_unbind_33 ?_
    refine lv_iload hx hb dd_RD_unbind_36 (lv_at hl 0 rfl) ?_
    refine hm_cr hS (hm_rV 1 (As := [.int (nI i)]) (rest := []) ⟨hx, hb, hml, hown, hts⟩ hE hS hP (kc_AL_remove l B D G M2 1 (Or.inl rfl) (N 4) d xs n4 f4 mo4 bb1 bb2 bb3.1 bb3.2.1 bb3.2.2.1 bb3.2.2.2.1 bb3.2.2.2.2 b3 i (by omega)) rfl bb1 tw_352 tw_349 tw_350 tw_351 tw_43 (by decide +kernel) rfl rfl ⟨by show 2 + 1 ≤ R.frames; omega, by show 8 + (4 + 11) + 63 ≤ R.locals; omega⟩ rfl hl.1 rfl (Nat.le_of_ble_eq_true rfl) dd_RD_unbind_38 ⟨by omega, by omega⟩) (fun r13 M14 H locs hw15 hP hS => ?_)
    refine W.widen (k := 2) (n := 104) (by omega) (by omega) ?_
    obtain ⟨-, kr1, kr2⟩ := hw15
    refine lv_pop hx hb dd_RD_unbind_41 rfl ?_
    refine lv_iconst (v := nI 1) hx hb dd_RD_unbind_42 (by decide +kernel) ?_
    have hdd : d ≠ G 0 := by
      rcases bb3.2.2.2.2 with h9 | h9
      · have h8 := bb3.2.1; omega
      · exact h9.2.2
    have hFb : cz_F O _ O M14 (cg 4) := cz_F.k0 kr2 (hm_a2 ⟨by rw [b2]; rfl, kr1.kn.1⟩ ⟨by rw [b4.resolve_left hdd]; rfl, kr1.kn.2⟩)
    exact hm_Ei (v := nI 1) hx hb hr rfl hS hP (⟨by rw [pa]; rfl, O, hT.kept hFb (fun c h9 => cg_n h9 (by decide)), by
        rw [pe]
        exact ⟨d, xs.eraseIdx i, kr1, b2, b3, b4, by rw [List.length_eraseIdx_of_lt pi, List.length_eraseIdx_of_lt (by omega), b5], fun j x9 b9 g1 g2 => er_rel b5 (fun j x9 b9 g1 g2 => (b6 j x9 b9 g1 g2).kept hFb (cg_0 (by decide))) j x9 b9 g1 g2, by rw [List.length_eraseIdx_of_lt pi]; omega⟩, (hFa.mono (fun _ => cg2_l)).trans (hFb.mono (fun _ => cg2_r))⟩) hlocks (by omega) (by omega) dd_RD_unbind_43
