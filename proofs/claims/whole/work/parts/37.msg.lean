/-! messages and headers -/
def ms_D (B : Nat) (D : va_G) (G N O : Nat → Nat) (M : hm_M) (key : List Nat) (hs : List (List Nat × List Nat)) (kk d : Nat) (xs : List Nat) : Prop := M (N 5) = some (.inr (4, [.ref kk, .ref (N 6)])) ∧ O (N 5) = 500 ∧ B ≤ N 5 ∧ tx_S D (cz_I O M) kk key ∧ al_D B D G M 3 (N 6) d xs ∧ O (N 6) = 501 ∧ B ≤ N 6 ∧ (d = G 0 ∨ O d = 502) ∧ xs.length = hs.length ∧ (∀ (j x : Nat) (h : List Nat × List Nat), xs[j]? = some x → hs[j]? = some h → hh_R B D O M j x h) ∧ hs.length ≤ 6
def pu_h (n v : List Nat) : List (List Nat × List Nat) → List (List Nat × List Nat)
  | [] => []
  | h :: hs => if h.1 = n then (h.1, v) :: hs else h :: pu_h n v hs
def pu_a (n : List Nat) (hs : List (List Nat × List Nat)) : Bool := hs.any (fun h => decide (h.1 = n))
def pu_r (n v : List Nat) (hs : List (List Nat × List Nat)) : List (List Nat × List Nat) := if pu_a n hs = true then pu_h n v hs else if hs.length < 6 then hs ++ [(n, v)] else hs
def pu_b (n : List Nat) (hs : List (List Nat × List Nat)) : Bool := pu_a n hs || decide (hs.length < 6)
theorem pu_set {n v : List Nat} : ∀ (hs : List (List Nat × List Nat)) (j : Nat) (h : List Nat × List Nat), hs[j]? = some h → h.1 = n → (∀ i, i < j → ∀ h2, hs[i]? = some h2 → ¬ h2.1 = n) → pu_h n v hs = hs.set j (h.1, v)
  | [], j, h, h1, _, _ => by simp at h1
  | c :: hs, 0, h, h1, h2, _ => by
    simp at h1
    subst h1
    rw [pu_h, if_pos h2]; rfl
  | c :: hs, j + 1, h, h1, h2, h3 => by
    have hc := h3 0 (by omega) c rfl
    rw [pu_h, if_neg hc, List.set_cons_succ, pu_set hs j h (by simpa using h1) h2 (fun i hi h4 hh => h3 (i + 1) (by omega) h4 (by simpa using hh))]
theorem ms_put {B : Nat} {D : va_G} {G N O : Nat → Nat} {M M1 : hm_M} {key v : List Nat} {hs : List (List Nat × List Nat)} {kk d j x s1 s2 w : Nat} {xs : List Nat} {hd : List Nat × List Nat} (h : ms_D B D G N O M key hs kk d xs) (hj : xs[j]? = some x) (hh : hs[j]? = some hd) (hx : M x = some (.inr (3, [.ref s1, .ref s2]))) (hO : O x = 503 + j) (hB : B ≤ x) (q4 : tx_S D (cz_I O M) s1 hd.1) (hw : tx_S D (cz_I O M) w v) (e1 : M1 = hm_up M x (.inr (3, [.ref s1, .ref w]))) : ms_R B D G N O M1 key (hs.set j (hd.1, v)) ∧ cz_F O M O M1 (cg 5) := by
  obtain ⟨m1, m2, m3, m4, l1, l2, l3, l4, l5, l6, l7⟩ := h
  have hj6 : j < 6 := by have := (List.getElem?_eq_some_iff.mp hh).1; omega
  have hF : cz_F O M O M1 (cg 5) := by rw [e1]; exact cz_F.up (by rw [hO]; unfold cg; omega)
  obtain ⟨n, f, mo, g1, g2, g3⟩ := id l1
  refine ⟨⟨kk, d, xs, by rw [e1]; exact hm_up_o (hm_ne m1 hx (by intro h9; cases h9)) m1, m2, m3, hF.tx (cg_0 (by decide)) m4, l1.kept (fun e he => ?_) (fun e he => ?_) (fun y hy fs hfs => ?_), l2, l3, l4, by rw [List.length_set]; exact l5, fun i y hd2 hi hh2 => ?_, by rw [List.length_set]; exact l7⟩, hF⟩
  · rw [e1]; rw [g1] at he; cases he; exact hm_up_o (hm_ne g1 hx (by intro h9; cases h9)) g1
  · rw [e1]; rw [g2] at he; cases he; exact hm_up_o (hm_ne g2 hx (by intro h9; cases h9)) g2
  · by_cases e : y = x
    · subst e; exact ⟨_, by rw [e1]; exact hm_up_s⟩
    · exact ⟨fs, by rw [e1]; exact hm_up_o e hfs⟩
  · by_cases e : i = j
    · subst e
      rw [hj] at hi
      cases hi
      rw [List.getElem?_set_self (List.getElem?_eq_some_iff.mp hh).1] at hh2
      cases hh2
      exact ⟨s1, w, by rw [e1]; exact hm_up_s, hO, hB, hF.tx (cg_0 (by decide)) q4, hF.tx (cg_0 (by decide)) hw⟩
    · rw [List.getElem?_set_ne (fun e2 => e e2.symm)] at hh2
      obtain ⟨t1, t2, p1, p2, p3, p4, p5⟩ := l6 i y hd2 hi hh2
      exact ⟨t1, t2, by rw [e1]; exact hm_up_o (hm_neO p2 hO (by omega)) p1, p2, p3, hF.tx (cg_0 (by decide)) p4, hF.tx (cg_0 (by decide)) p5⟩
theorem ms_add {B : Nat} {D : va_G} {G N O : Nat → Nat} {M M3 M4 : hm_M} {key n v : List Nat} {hs : List (List Nat × List Nat)} {kk d d1 q u w : Nat} {xs : List Nat} (h : ms_D B D G N O M key hs kk d xs) (hI : im_R D G N O M) (hlen : hs.length < 6) (hq : M q = none) (hB : B ≤ q) (e3 : M3 = hm_up M q (.inr (3, [.ref u, .ref w]))) (a1 : al_D B D G M4 3 (N 6) d1 (xs ++ [q])) (a2 : d1 = d ∨ M3 d1 = none) (a3 : d1 ≠ G 0) (a4 : ∀ z e, M3 z = some e → z ≠ (N 6) → (z = d → d = G 0 ∨ d1 ≠ d) → M4 z = some e) (hu : tx_S D (cz_I O M) u n) (hw : tx_S D (cz_I O M) w v) : ∃ O1, ms_R B D G N O1 M4 key (hs ++ [(n, v)]) ∧ cz_F O M O1 M4 (cg 5) := by
  obtain ⟨m1, m2, m3, m4, l1, l2, l3, l4, l5, l6, l7⟩ := h
  obtain ⟨nn, f, mo, g1, g2, g3⟩ := id l1
  have hk3 : ∀ z e, M z = some e → M3 z = some e := fun z e hz => by rw [e3]; exact hm_up_o (hm_neN hz hq) hz
  have hF : cz_F O M (cz_z O M (fun z => if z = q then 503 + hs.length else 502)) M4 (cg 5) := fun z e hz => by
    refine ⟨cz_z_o hz, fun hn => a4 z e (hk3 z e hz) (fun e2 => hn (by rw [e2, l2]; rfl)) (fun e2 => ?_), ?_⟩
    · rcases l4 with h9 | h9
      · exact Or.inl h9
      · exact absurd (show cg 5 (O z) by rw [e2, h9]; rfl) hn
    · by_cases h1 : z = (N 6)
      · rw [h1]; exact a1.kn.1
      · by_cases h2 : d1 = d
        · by_cases h4 : z = d
          · rw [h4, ← h2]; exact a1.kn.2
          · exact ⟨e, a4 z e (hk3 z e hz) h1 (fun e2 => absurd e2 h4)⟩
        · exact ⟨e, a4 z e (hk3 z e hz) h1 (fun _ => Or.inr h2)⟩
  have hI' := hF.tx (cg_0 (by decide)) hu
  have hW' := hF.tx (cg_0 (by decide)) hw
  have hq6 : q ≠ N 6 := fun e2 => by rw [e2, g1] at hq; cases hq
  have hqd : q ≠ d := fun e2 => by rw [e2, g2] at hq; cases hq
  have hd1q : d1 ≠ q := fun e2 => by
    rcases a2 with h9 | h9
    · exact hqd (e2.symm.trans h9)
    · rw [e2, e3, hm_up_s] at h9; cases h9
  refine ⟨_, ⟨kk, d1, xs ++ [q], a4 _ _ (hk3 _ _ m1) (hm_neO m2 l2 (by decide)) (fun e2 => absurd e2 (hm_ne m1 g2 (by intro h9; cases h9))), (cz_z_o m1).trans m2, m3, hF.tx (cg_0 (by decide)) m4, a1, (cz_z_o g1).trans l2, l3, Or.inr ?_, by rw [List.length_append, List.length_append, l5]; rfl, fun j y h9 hj hh => ?_, by rw [List.length_append, List.length_singleton]; omega⟩, hF⟩
  · rcases a2 with h9 | h9
    · rw [h9]
      rcases l4 with h8 | h8
      · exact absurd (h9.trans h8) a3
      · exact (cz_z_o g2).trans h8
    · have : M d1 = none := by
        cases hm : M d1 with
        | none => rfl
        | some e => rw [hk3 _ _ hm] at h9; cases h9
      rw [cz_z_n this, if_neg hd1q]
  · by_cases e : j < hs.length
    · rw [List.getElem?_append_left (by omega)] at hj
      rw [List.getElem?_append_left e] at hh
      obtain ⟨t1, t2, p1, p2, p3, p4, p5⟩ := l6 j y h9 hj hh
      exact ⟨t1, t2, a4 _ _ (hk3 _ _ p1) (hm_neO p2 l2 (by omega)) (fun e2 => absurd e2 (hm_ne p1 g2 (by intro h8; cases h8))), (cz_z_o p1).trans p2, p3, hF.tx (cg_0 (by decide)) p4, hF.tx (cg_0 (by decide)) p5⟩
    · have ej : j = hs.length := by
        have := (List.getElem?_eq_some_iff.mp hh).1
        rw [List.length_append, List.length_singleton] at this
        omega
      subst ej
      rw [List.getElem?_append_right (by omega), l5, Nat.sub_self] at hj
      rw [List.getElem?_append_right (Nat.le_refl _), Nat.sub_self] at hh
      cases hj
      cases hh
      exact ⟨u, w, a4 _ _ (by rw [e3]; exact hm_up_s) hq6 (fun e2 => absurd e2 hqd), by rw [cz_z_n hq, if_pos rfl], hB, hI', hW'⟩

set_option maxHeartbeats 4000000 in
set_option maxRecDepth 100000 in
theorem kc_MG_startAnew (l : Launch) (B : Nat) (D : va_G) (G : Nat → Nat) (M : hm_M) (N O : Nat → Nat) (hI : im_R D G N O M) (key : List Nat) (hs : List (List Nat × List Nat)) (hM : ms_R B D G N O M key hs) (a : Nat) (t : List Nat) (ht : tx_S D (cz_I O M) a t) : Met l yy_MG_startAnew ws_MG_startAnew ({ frames := 1, cells := 0, slots := 0, locals := 23 }) (hm_Pc B D G M [.ref (N 5), .ref a]) (hm_Nv B D (fun M1 => ms_R B D G N O M1 t [] ∧ cz_F O M O M1 (cg 5))) (0) (0) (hm_A B) := by
  refine Met.ofW (cc := cd_MG_startAnew) (maxL := 2) (ret := none) (by decide) rfl ?_
  intro p e s m args below meth c s₁ B0 hml hv
  obtain ⟨rfl, hE, hP⟩ := hv
  have hx := B0.exec
  have hb := B0.bytes
  have hr := B0.returns
  have hts : ∀ w ∈ tb_G, w.before _ s = true := fun w h => atoms_spec (ws := ws_MG_startAnew) B0.pre w (List.mem_cons_of_mem _ h)
  have hown : s.vm.findClass "RouteDesk$Message" = some m.cls := findClass_of_methodNamed B0.named
  have hlocks := B0.notSynchronized
  have hRf : (headSpec ws_MG_startAnew { frames := 1, cells := 0, slots := 0, locals := 23 }).room.frames = 1 := rfl
  have hRl : (headSpec ws_MG_startAnew { frames := 1, cells := 0, slots := 0, locals := 23 }).room.locals = 23 := rfl
  have hRc : (headSpec ws_MG_startAnew { frames := 1, cells := 0, slots := 0, locals := 23 }).room.cells = 0 := rfl
  have hRs : (headSpec ws_MG_startAnew { frames := 1, cells := 0, slots := 0, locals := 23 }).room.slots = 0 := rfl
  generalize (headSpec ws_MG_startAnew { frames := 1, cells := 0, slots := 0, locals := 23 }).room = R at hRf hRl hRc hRs ⊢
  have hS : va_S (hm_A B) s.heap s.heap [] := va_S.rf
  have hl := lv_entry ([.ref (N 5), .ref a]) (n := 2) (Nat.le_of_ble_eq_true rfl)
  rw [lg_entry_eq]
  generalize (lg_sl ([.ref (N 5), .ref a]) ++ List.replicate (2 - (lg_sl ([.ref (N 5), .ref a])).length) Slot.unset).toArray = ls at hl ⊢
  have hl : lv_has ls 2 [(0, .ref (N 5)), (1, .ref a)] := hl
  obtain ⟨kk, d5, xs5, m1, m2, m3, m4, l1, l2, l3, l4, l5, l6, l7⟩ := id hM
  obtain ⟨n6, f6, mo6, ll1, ll2, ll3⟩ := id l1
  obtain ⟨vkk, hkk⟩ := tx_o (cz_tx m4)
  refine lv_aload_n hx hb dd_MG_startAnew_0 rfl (lv_at hl 0 rfl) ?_
  refine lv_aload_n hx hb dd_MG_startAnew_1 rfl (lv_at hl 1 rfl) ?_
  refine hm_put (ci := 4) (v := .ref a) (ty := .object "java/lang/String") (C := rn_MG) (T := ft_MG) (N := 2) hx hb hts fi_MG fy_MG fo_MG fn_MG hown hE.K hP hS m3 m1 rfl 0 (by decide) (hts _ tw_147) (fun _ h9 => h9) rfl (by decide +kernel) rfl rfl (Nat.le_of_ble_eq_true rfl) dd_MG_startAnew_2 (fun H locs hP hS => ?_)
  have hP : hm_P D cl_W (hm_up M (N 5) (.inr (4, [.ref a, .ref (N 6)]))) H := hP
  obtain ⟨M1, eM1⟩ : ∃ z, z = hm_up M (N 5) (.inr (4, [.ref a, .ref (N 6)])) := ⟨_, rfl⟩
  rw [← eM1] at hP
  have f2 : M1 (N 6) = some (.inr (9, [.ref d5, .int (nI xs5.length), .int mo6])) := by rw [eM1]; exact hm_up_o (hm_ne ll1 m1 (by intro h9; cases h9)) ll1
  have f3 : M1 (N 5) = some (.inr (4, [.ref a, .ref (N 6)])) := by rw [eM1]; exact hm_up_s
  refine lv_aload_n hx hb dd_MG_startAnew_5 rfl (lv_at hl 0 rfl) ?_
  refine hm_get (ci := 4) (C := rn_MG) (T := ft_MG) (N := 2) hx hb hts fi_MG hown hE.K hP f3 rfl 1 (by decide) (hts _ tw_149) (fun _ h9 => h9) rfl dd_MG_startAnew_6 ?_
  have hFk : cz_F O M O M1 (cg 5) := by rw [eM1]; exact cz_F.up (by rw [m2]; rfl)
  have hn5 : d5 ≠ (N 5) := hm_ne ll2 m1 (by intro h9; cases h9)
  refine hm_cv hS (hm_rV 0 (As := []) (rest := []) ⟨hx, hb, hml, hown, hts⟩ hE hS hP (kc_AL_clear l B D G M1 3 (Or.inr rfl) (N 6) d5 xs5 n6 f6 mo6 f2 (by rw [eM1]; exact hm_up_o hn5 ll2) ll3.1 ll3.2.1 ll3.2.2.1 (fun x9 hx9 => by
      obtain ⟨gs, h8⟩ := ll3.2.2.2.1 x9 hx9
      exact ⟨gs, by rw [eM1]; exact hm_up_o (hm_ne h8 m1 (by intro h7; cases h7)) h8⟩) ll3.2.2.2.2 l3) rfl f2 tw_607 tw_604 tw_605 tw_606 tw_43 (by decide +kernel) rfl rfl ⟨by show 0 + 1 ≤ R.frames; omega, by show 8 + (4 + 11) + 0 ≤ R.locals; omega⟩ rfl hl.1 rfl (Nat.le_of_ble_eq_true rfl) dd_MG_startAnew_9 ⟨by omega, by omega⟩) (fun M5 H locs hw6 hP hS => ?_)
  refine W.widen (k := 0) (n := 0) (by omega) (by omega) ?_
  obtain ⟨kc1, kc2⟩ := hw6
  have hFc : cz_F O M1 O M5 (cg 5) := cz_F.ad kc2 (by rw [l2]; rfl) (l4.imp id (fun h9 => by rw [h9]; rfl)) kc1.kn.1 kc1.kn.2
  exact hm_Ev hx hb hr hS hP (⟨⟨a, d5, [], kc2 _ _ (by rw [eM1]; exact hm_up_s) (hm_neO m2 l2 (by decide)) (fun h9 => absurd h9.symm hn5), m2, m3, (hFk.trans hFc).tx (cg_0 (by decide)) ht, kc1, l2, l3, l4, rfl, fun j x9 h9 g1 => by simp at g1, Nat.zero_le _⟩, hFk.trans hFc⟩) hlocks (by omega) (by omega) dd_MG_startAnew_12
set_option maxHeartbeats 4000000 in
set_option maxRecDepth 100000 in
theorem kc_RD_message (l : Launch) (B : Nat) (D : va_G) (G : Nat → Nat) (M : hm_M) (N O : Nat → Nat) (hI : im_R D G N O M) (t : List Nat) (hT : tp_R B D N O M t) (key : List Nat) (hs : List (List Nat × List Nat)) (hM : ms_R B D G N O M key hs) : Met l yy_RD_message ws_RD_message ({ frames := 7, cells := 2, slots := 104, locals := 172 }) (hm_Pc B D G M [.ref (N 0)]) (hm_Nv B D (fun M1 => ∃ O1, tp_R B D N O1 M1 [] ∧ ms_R B D G N O1 M1 t [] ∧ cz_F O M O1 M1 (cg2 1 5))) (2) (104) (hm_A B) := by
  refine Met.ofW (cc := cd_RD_message) (maxL := 1) (ret := none) (by decide) rfl ?_
  intro p e s m args below meth c s₁ B0 hml hv
  obtain ⟨rfl, hE, hP⟩ := hv
  have hx := B0.exec
  have hb := B0.bytes
  have hr := B0.returns
  have hts : ∀ w ∈ tb_G, w.before _ s = true := fun w h => atoms_spec (ws := ws_RD_message) B0.pre w (List.mem_cons_of_mem _ h)
  have hown : s.vm.findClass "RouteDesk" = some m.cls := findClass_of_methodNamed B0.named
  have hlocks := B0.notSynchronized
  have hRf : (headSpec ws_RD_message { frames := 7, cells := 2, slots := 104, locals := 172 }).room.frames = 7 := rfl
  have hRl : (headSpec ws_RD_message { frames := 7, cells := 2, slots := 104, locals := 172 }).room.locals = 172 := rfl
  have hRc : (headSpec ws_RD_message { frames := 7, cells := 2, slots := 104, locals := 172 }).room.cells = 2 := rfl
  have hRs : (headSpec ws_RD_message { frames := 7, cells := 2, slots := 104, locals := 172 }).room.slots = 104 := rfl
  generalize (headSpec ws_RD_message { frames := 7, cells := 2, slots := 104, locals := 172 }).room = R at hRf hRl hRc hRs ⊢
  have hS : va_S (hm_A B) s.heap s.heap [] := va_S.rf
  have hl := lv_entry ([.ref (N 0)]) (n := 1) (Nat.le_of_ble_eq_true rfl)
  rw [lg_entry_eq]
  generalize (lg_sl ([.ref (N 0)]) ++ List.replicate (1 - (lg_sl ([.ref (N 0)])).length) Slot.unset).toArray = ls at hl ⊢
  have hl : lv_has ls 1 [(0, .ref (N 0))] := hl
  obtain ⟨kk, d5, xs5, m1, m2, m3, m4, l1, l2, l3, l4, l5, l6, l7⟩ := id hM
  obtain ⟨n6, f6, mo6, ll1, ll2, ll3⟩ := id l1
  obtain ⟨vkk, hkk⟩ := tx_o (cz_tx m4)
  refine lv_aload_n hx hb dd_RD_message_0 rfl (lv_at hl 0 rfl) ?_
  refine hm_get (ci := 0) (C := rn_RD) (T := ft_RD) (N := 6) hx hb hts fi_RD hown hE.K hP hI.o rfl 4 (by decide) (hts _ tw_188) (fun _ h9 => h9) rfl dd_RD_message_1 ?_
  refine lv_aload_n hx hb dd_RD_message_4 rfl (lv_at hl 0 rfl) ?_
  refine hm_cr hS (hm_rV 0 (As := []) (rest := [.ref (N 5)]) ⟨hx, hb, hml, hown, hts⟩ hE hS hP (kc_RD_takeTape l B D G M N O hI t hT) rfl hI.o tw_365 tw_362 tw_364 tw_3 tw_36 (by decide +kernel) rfl rfl ⟨by show 6 + 1 ≤ R.frames; omega, by show 8 + (2 + 11) + 151 ≤ R.locals; omega⟩ rfl hl.1 rfl (Nat.le_of_ble_eq_true rfl) dd_RD_message_5 ⟨by omega, by omega⟩) (fun r1 M2 H locs hw3 hP hS => ?_)
  refine W.widen (k := 2) (n := 104) (by omega) (by omega) ?_
  have hIo := hI
  obtain ⟨O, hT, htx, hFa⟩ := hw3
  have hI := hI.kept hFa (cg_0 (by decide))
  have hM := hM.kept hFa hIo (fun c h9 => cg_n h9 (by decide)) (cg_0 (by decide))
  obtain ⟨kk, d5, xs5, m1, m2, m3, m4, l1, l2, l3, l4, l5, l6, l7⟩ := id hM
  obtain ⟨n6, f6, mo6, ll1, ll2, ll3⟩ := id l1
  obtain ⟨vkk, hkk⟩ := tx_o (cz_tx m4)
  obtain ⟨vr1, hr1⟩ := tx_o (cz_tx htx)
  refine hm_cv hS (hm_rV 1 (As := [.ref r1]) (rest := []) ⟨hx, hb, hml, hown, hts⟩ hE hS hP (kc_MG_startAnew l B D G M2 N O hI key hs hM r1 t htx) rfl m1 tw_603 tw_600 tw_601 tw_602 tw_44 (by decide +kernel) rfl rfl ⟨by show 1 + 1 ≤ R.frames; omega, by show 8 + (2 + 11) + 23 ≤ R.locals; omega⟩ rfl hl.1 rfl (Nat.le_of_ble_eq_true rfl) dd_RD_message_8 ⟨by omega, by omega⟩) (fun M5 H locs hw6 hP hS => ?_)
  refine W.widen (k := 2) (n := 104) (by omega) (by omega) ?_
  obtain ⟨kn1, kn2⟩ := hw6
  exact hm_Ev hx hb hr hS hP (⟨O, hT.kept kn2 (fun c h9 => cg_n h9 (by decide)), kn1, (hFa.mono (fun _ => cg2_l)).trans (kn2.mono (fun _ => cg2_r))⟩) hlocks (by omega) (by omega) dd_RD_message_11
set_option maxHeartbeats 4000000 in
set_option maxRecDepth 100000 in
theorem kc_MG_headerOf (l : Launch) (B : Nat) (D : va_G) (G : Nat → Nat) (M : hm_M) (N O : Nat → Nat) (key : List Nat) (hs : List (List Nat × List Nat)) (kk d5 : Nat) (xs5 : List Nat) (hMd : ms_D B D G N O M key hs kk d5 xs5) (a : Nat) (t : List Nat) (ht : tx_S D M a t) : Met l yy_MG_headerOf ws_MG_headerOf ({ frames := 3, cells := 0, slots := 0, locals := 64 }) (hm_Pc B D G M [.ref (N 5), .ref a]) (hm_Nq B D (fun r M1 => M1 = M ∧ ((r = none ∧ pu_a t hs = false) ∨ ∃ (j x : Nat) (h : List Nat × List Nat), r = some x ∧ xs5[j]? = some x ∧ hs[j]? = some h ∧ h.1 = t ∧ (∀ i, i < j → ∀ (h2 : List Nat × List Nat), hs[i]? = some h2 → ¬ h2.1 = t)))) (0) (0) (hm_A B) := by
  refine Met.ofW (cc := cd_MG_headerOf) (maxL := 3) (ret := ((some (FieldType.object "RouteDesk$Header")))) (by decide) rfl ?_
  intro p e s m args below meth c s₁ B0 hml hv
  obtain ⟨rfl, hE, hP⟩ := hv
  have hx := B0.exec
  have hb := B0.bytes
  have hr := B0.returns
  have hts : ∀ w ∈ tb_G, w.before _ s = true := fun w h => atoms_spec (ws := ws_MG_headerOf) B0.pre w (List.mem_cons_of_mem _ h)
  have hown : s.vm.findClass "RouteDesk$Message" = some m.cls := findClass_of_methodNamed B0.named
  have hlocks := B0.notSynchronized
  have hRf : (headSpec ws_MG_headerOf { frames := 3, cells := 0, slots := 0, locals := 64 }).room.frames = 3 := rfl
  have hRl : (headSpec ws_MG_headerOf { frames := 3, cells := 0, slots := 0, locals := 64 }).room.locals = 64 := rfl
  have hRc : (headSpec ws_MG_headerOf { frames := 3, cells := 0, slots := 0, locals := 64 }).room.cells = 0 := rfl
  have hRs : (headSpec ws_MG_headerOf { frames := 3, cells := 0, slots := 0, locals := 64 }).room.slots = 0 := rfl
  generalize (headSpec ws_MG_headerOf { frames := 3, cells := 0, slots := 0, locals := 64 }).room = R at hRf hRl hRc hRs ⊢
  have hS : va_S (hm_A B) s.heap s.heap [] := va_S.rf
  have hl := lv_entry ([.ref (N 5), .ref a]) (n := 3) (Nat.le_of_ble_eq_true rfl)
  rw [lg_entry_eq]
  generalize (lg_sl ([.ref (N 5), .ref a]) ++ List.replicate (3 - (lg_sl ([.ref (N 5), .ref a])).length) Slot.unset).toArray = ls at hl ⊢
  have hl : lv_has ls 3 [(0, .ref (N 5)), (1, .ref a)] := hl
  obtain ⟨m1, m2, m3, m4, l1, l2, l3, l4, l5, l6, l7⟩ := id hMd
  obtain ⟨n6, f6, mo6, ll1, ll2, ll3⟩ := id l1
  refine lv_iconst (v := nI 0) hx hb dd_MG_headerOf_0 (by decide +kernel) ?_
  refine lv_istore_n (lv' := [(2, .int (nI 0)), (0, .ref (N 5)), (1, .ref a)]) hx hb dd_MG_headerOf_1 rfl hl (by decide) rfl (fun ls hl => ?_)
  have lp2 : ∀ (n9 : Nat) (k : Nat), (k ≤ hs.length) → (∀ j, j < k → ∀ (h2 : List Nat × List Nat), hs[j]? = some h2 → ¬ h2.1 = t) → hs.length - k < n9 → ∀ (H : Heap) (locs : List Loc) (ls : Array Slot), hm_P D cl_W M H → va_S (hm_A B) s.heap H locs → lv_has ls 3 [(0, .ref (N 5)), (1, .ref a), (2, .int (nI k))] → W p l e R s m ([.ref (N 5), .ref a] : List Value).toArray below meth c H locs (0) (0) (MQ below (hm_Nq B D (fun r M1 => M1 = M ∧ ((r = none ∧ pu_a t hs = false) ∨ ∃ (j x : Nat) (h : List Nat × List Nat), r = some x ∧ xs5[j]? = some x ∧ hs[j]? = some h ∧ h.1 = t ∧ (∀ i, i < j → ∀ (h2 : List Nat × List Nat), hs[i]? = some h2 → ¬ h2.1 = t)))) ([.ref (N 5), .ref a] : List Value).toArray s (0) (0) (hm_A B)) (F0 m 2 ls []) := by
    intro n9
    induction n9 with
    | zero => intro k hk hno hm; exact absurd hm (Nat.not_lt_zero _)
    | succ n9 ih2 =>
      intro k hk hno hm H locs ls hP hS hl
      refine lv_iload_n hx hb dd_MG_headerOf_2 rfl (lv_at hl 2 rfl) ?_
      refine lv_aload_n hx hb dd_MG_headerOf_3 rfl (lv_at hl 0 rfl) ?_
      refine hm_get (ci := 4) (C := rn_MG) (T := ft_MG) (N := 2) hx hb hts fi_MG hown hE.K hP m1 rfl 1 (by decide) (hts _ tw_149) (fun _ h9 => h9) rfl dd_MG_headerOf_4 ?_
      refine hm_ci hS (hm_rV 0 (As := []) (rest := [.int (nI k)]) ⟨hx, hb, hml, hown, hts⟩ hE hS hP (kc_AL_size l B D G M 3 (N 6) xs5 l1.L) rfl ll1 tw_331 tw_680 tw_329 tw_330 tw_43 (by decide +kernel) rfl rfl ⟨by show 0 + 1 ≤ R.frames; omega, by show 8 + (1 + 11) + 0 ≤ R.locals; omega⟩ rfl hl.1 rfl (Nat.le_of_ble_eq_true rfl) dd_MG_headerOf_7 ⟨by omega, by omega⟩) (fun r1 M2 H locs hw3 hP hS => ?_)
      refine W.widen (k := 0) (n := 0) (by omega) (by omega) ?_
      obtain ⟨rfl, eM2⟩ := hw3
      rw [eM2] at hP
      refine hn_icmp_ge (tgt := 52) hx hb (by omega) (by omega) dd_MG_headerOf_10 (by decide) (fun c4 => ?_) (fun c4 => ?_)
      · refine lv_null hx hb dd_MG_headerOf_52 ?_
        exact hm_Eq (v := none) hx hb hr (Or.inl ⟨_, rfl⟩) hS hP (⟨rfl, Or.inl ⟨rfl, List.any_eq_false.mpr (fun h hh => by
            obtain ⟨j, hj⟩ := List.getElem?_of_mem hh
            have := hno j (by have := (List.getElem?_eq_some_iff.mp hj).1; omega) h hj
            simpa using this)⟩⟩) hlocks (by omega) (by omega) dd_MG_headerOf_53
      · refine lv_aload_n hx hb dd_MG_headerOf_13 rfl (lv_at hl 0 rfl) ?_
        refine hm_get (ci := 4) (C := rn_MG) (T := ft_MG) (N := 2) hx hb hts fi_MG hown hE.K hP m1 rfl 1 (by decide) (hts _ tw_149) (fun _ h9 => h9) rfl dd_MG_headerOf_14 ?_
        refine lv_iload_n hx hb dd_MG_headerOf_17 rfl (lv_at hl 2 rfl) ?_
        refine hm_cr hS (hm_rV 1 (As := [.int (nI k)]) (rest := []) ⟨hx, hb, hml, hown, hts⟩ hE hS hP (kc_AL_get l B D G M 3 (N 6) xs5 l1.L k (by omega)) rfl ll1 tw_335 tw_681 tw_333 tw_334 tw_43 (by decide +kernel) rfl rfl ⟨by show 2 + 1 ≤ R.frames; omega, by show 8 + (2 + 11) + 43 ≤ R.locals; omega⟩ rfl hl.1 rfl (Nat.le_of_ble_eq_true rfl) dd_MG_headerOf_18 ⟨by omega, by omega⟩) (fun r5 M6 H locs hw7 hP hS => ?_)
        refine W.widen (k := 0) (n := 0) (by omega) (by omega) ?_
        obtain ⟨rfl, eM6⟩ := hw7
        rw [eM6] at hP
        obtain ⟨h, e2⟩ : ∃ h, hs[k]? = some h := ⟨_, List.getElem?_eq_getElem (by omega)⟩
        obtain ⟨s1, s2, q1, q2, q3, q4, q5⟩ := id (l6 k _ h (al_get (by omega)) e2)
        obtain ⟨vs1, hs1⟩ := tx_o (cz_tx q4)
        refine va_castE hx hb hown (hts _ tw_682) (hm_recv hE.K hP rfl q1) dd_MG_headerOf_21 ?_
        refine hm_getN (ci := 3) (C := rn_HD) (T := ft_HD) (N := 2) hx hb hts fi_HD hown hE.K hP q1 rfl 0 (by decide) (va_Nw.use rfl (hE.nest 11 rfl)) (fun _ h9 => h9) rfl dd_MG_headerOf_24 ?_
        refine lv_aload_n hx hb dd_MG_headerOf_27 rfl (lv_at hl 1 rfl) ?_
        refine hm_ci hS (hm_rV 1 (As := [.ref a]) (rest := []) ⟨hx, hb, hml, hown, hts⟩ hE hS hP (kc_ST_equals l B D G M s1 h.1 (cz_tx q4) a t ht) rfl hs1 tw_591 tw_683 tw_589 tw_590 tw_39 (by decide +kernel) rfl rfl ⟨by show 1 + 1 ≤ R.frames; omega, by show 8 + (3 + 11) + 22 ≤ R.locals; omega⟩ rfl hl.1 rfl (Nat.le_of_ble_eq_true rfl) dd_MG_headerOf_28 ⟨by omega, by omega⟩) (fun r8 M9 H locs hw10 hP hS => ?_)
        refine W.widen (k := 0) (n := 0) (by omega) (by omega) ?_
        obtain ⟨rfl, eM9⟩ := hw10
        rw [eM9] at hP
        refine hn_if_eq (tgt := 46) hx hb (by split <;> omega) dd_MG_headerOf_31 (by decide) (fun c11 => ?_) (fun c11 => ?_)
        · have c3 : ¬ h.1 = t := fun h9 => by rw [if_pos h9] at c11; omega
          refine lv_iinc (v := nI (k + 1)) (lv' := [(2, .int (nI (k + 1))), (0, .ref (N 5)), (1, .ref a)]) hx hb dd_MG_headerOf_46 hl (k := 2) rfl (nI_1 k) (by decide) rfl (fun ls hl => ?_)
          refine lv_goto (tgt := 2) hx hb dd_MG_headerOf_49 (by decide) ?_
          exact ih2 (k + 1) (by omega) (fun j hj z2 hz2 => by
              by_cases h9 : j = k
              · subst h9; rw [e2] at hz2; cases hz2; exact c3
              · exact hno j (by omega) z2 hz2) (by omega) _ _ _ hP hS (lv_sub hl [1, 2, 0] rfl)
        · have c3 : h.1 = t := by
            by_cases h9 : h.1 = t
            · exact h9
            · rw [if_neg h9] at c11; omega
          refine lv_aload_n hx hb dd_MG_headerOf_34 rfl (lv_at hl 0 rfl) ?_
          refine hm_get (ci := 4) (C := rn_MG) (T := ft_MG) (N := 2) hx hb hts fi_MG hown hE.K hP m1 rfl 1 (by decide) (hts _ tw_149) (fun _ h9 => h9) rfl dd_MG_headerOf_35 ?_
          refine lv_iload_n hx hb dd_MG_headerOf_38 rfl (lv_at hl 2 rfl) ?_
          refine hm_cr hS (hm_rV 1 (As := [.int (nI k)]) (rest := []) ⟨hx, hb, hml, hown, hts⟩ hE hS hP (kc_AL_get l B D G M 3 (N 6) xs5 l1.L k (by omega)) rfl ll1 tw_335 tw_681 tw_333 tw_334 tw_43 (by decide +kernel) rfl rfl ⟨by show 2 + 1 ≤ R.frames; omega, by show 8 + (2 + 11) + 43 ≤ R.locals; omega⟩ rfl hl.1 rfl (Nat.le_of_ble_eq_true rfl) dd_MG_headerOf_39 ⟨by omega, by omega⟩) (fun r12 M13 H locs hw14 hP hS => ?_)
          refine W.widen (k := 0) (n := 0) (by omega) (by omega) ?_
          obtain ⟨rfl, eM13⟩ := hw14
          rw [eM13] at hP
          refine va_castE hx hb hown (hts _ tw_682) (hm_recv hE.K hP rfl q1) dd_MG_headerOf_42 ?_
          exact hm_Eq (v := (some (xs5.getD k 0))) hx hb hr (Or.inl ⟨_, rfl⟩) hS hP (⟨rfl, Or.inr ⟨k, _, h, rfl, al_get (by omega), e2, c3, hno⟩⟩) hlocks (by omega) (by omega) dd_MG_headerOf_45
  exact lp2 _ 0 (Nat.zero_le _) (fun j hj => absurd hj (Nat.not_lt_zero _)) (Nat.lt_succ_self _) _ _ _ hP hS (lv_sub hl [1, 2, 0] rfl)
set_option maxHeartbeats 4000000 in
set_option maxRecDepth 100000 in
theorem kc_MG_put (l : Launch) (B : Nat) (D : va_G) (G : Nat → Nat) (M : hm_M) (N O : Nat → Nat) (hI : im_R D G N O M) (key : List Nat) (hs : List (List Nat × List Nat)) (kk d5 : Nat) (xs5 : List Nat) (hMd : ms_D B D G N O M key hs kk d5 xs5) (u w : Nat) (n1 n2 : List Nat) (hu : tx_S D (cz_I O M) u n1) (hw : tx_S D (cz_I O M) w n2) : Met l yy_MG_put ws_MG_put ({ frames := 7, cells := 2, slots := 202, locals := 171 }) (hm_Pc B D G M [.ref (N 5), .ref u, .ref w]) (hm_Ni B D (fun r M1 => r = nI (bz (pu_b n1 hs)) ∧ ∃ O1, ms_R B D G N O1 M1 key (pu_r n1 n2 hs) ∧ cz_F O M O1 M1 (cg 5))) (2) (202) (hm_A B) := by
  refine Met.ofW (cc := cd_MG_put) (maxL := 4) (ret := ((some FieldType.boolean))) (by decide) rfl ?_
  intro p e s m args below meth c s₁ B0 hml hv
  obtain ⟨rfl, hE, hP⟩ := hv
  have hx := B0.exec
  have hb := B0.bytes
  have hr := B0.returns
  have hts : ∀ w ∈ tb_G, w.before _ s = true := fun w h => atoms_spec (ws := ws_MG_put) B0.pre w (List.mem_cons_of_mem _ h)
  have hown : s.vm.findClass "RouteDesk$Message" = some m.cls := findClass_of_methodNamed B0.named
  have hlocks := B0.notSynchronized
  have hRf : (headSpec ws_MG_put { frames := 7, cells := 2, slots := 202, locals := 171 }).room.frames = 7 := rfl
  have hRl : (headSpec ws_MG_put { frames := 7, cells := 2, slots := 202, locals := 171 }).room.locals = 171 := rfl
  have hRc : (headSpec ws_MG_put { frames := 7, cells := 2, slots := 202, locals := 171 }).room.cells = 2 := rfl
  have hRs : (headSpec ws_MG_put { frames := 7, cells := 2, slots := 202, locals := 171 }).room.slots = 202 := rfl
  generalize (headSpec ws_MG_put { frames := 7, cells := 2, slots := 202, locals := 171 }).room = R at hRf hRl hRc hRs ⊢
  have hS : va_S (hm_A B) s.heap s.heap [] := va_S.rf
  have hl := lv_entry ([.ref (N 5), .ref u, .ref w]) (n := 4) (Nat.le_of_ble_eq_true rfl)
  rw [lg_entry_eq]
  generalize (lg_sl ([.ref (N 5), .ref u, .ref w]) ++ List.replicate (4 - (lg_sl ([.ref (N 5), .ref u, .ref w])).length) Slot.unset).toArray = ls at hl ⊢
  have hl : lv_has ls 4 [(0, .ref (N 5)), (1, .ref u), (2, .ref w)] := hl
  obtain ⟨m1, m2, m3, m4, l1, l2, l3, l4, l5, l6, l7⟩ := id hMd
  obtain ⟨n6, f6, mo6, ll1, ll2, ll3⟩ := id l1
  refine lv_aload_n hx hb dd_MG_put_0 rfl (lv_at hl 0 rfl) ?_
  refine lv_aload_n hx hb dd_MG_put_1 rfl (lv_at hl 1 rfl) ?_
  refine hm_cq hS (hm_rV 1 (As := [.ref u]) (rest := []) ⟨hx, hb, hml, hown, hts⟩ hE hS hP (kc_MG_headerOf l B D G M N O key hs kk d5 xs5 hMd u n1 (cz_tx hu)) rfl m1 tw_679 tw_676 tw_678 tw_6 tw_44 (by decide +kernel) rfl rfl ⟨by show 3 + 1 ≤ R.frames; omega, by show 8 + (3 + 11) + 64 ≤ R.locals; omega⟩ rfl hl.1 rfl (Nat.le_of_ble_eq_true rfl) dd_MG_put_2 ⟨by omega, by omega⟩) (fun r1 M2 H locs hw3 hP hS => ?_)
  refine W.widen (k := 0) (n := 0) (by omega) (by omega) ?_
  obtain ⟨eM2, qh⟩ := hw3
  rw [eM2] at hP
  rcases qh with ⟨rfl, hna⟩ | ⟨j, x, hd, rfl, hj, hh, hn1, hno⟩
  · refine lv_astore_nN (lv' := [(3, .null), (0, .ref (N 5)), (1, .ref u), (2, .ref w)]) hx hb dd_MG_put_5 rfl hl (by decide) rfl (fun ls hl => ?_)
    refine lv_aload_nN hx hb dd_MG_put_6 rfl (lv_at hl 0 rfl) ?_
    refine lv_ifnullN (tgt := 17) hx hb dd_MG_put_7 (by decide) ?_
    refine lv_aload_n hx hb dd_MG_put_17 rfl (lv_at hl 1 rfl) ?_
    refine hm_get (ci := 4) (C := rn_MG) (T := ft_MG) (N := 2) hx hb hts fi_MG hown hE.K hP m1 rfl 1 (by decide) (hts _ tw_149) (fun _ h9 => h9) rfl dd_MG_put_18 ?_
    refine hm_ci hS (hm_rV 0 (As := []) (rest := []) ⟨hx, hb, hml, hown, hts⟩ hE hS hP (kc_AL_size l B D G M 3 (N 6) xs5 l1.L) rfl ll1 tw_331 tw_680 tw_329 tw_330 tw_43 (by decide +kernel) rfl rfl ⟨by show 0 + 1 ≤ R.frames; omega, by show 8 + (1 + 11) + 0 ≤ R.locals; omega⟩ rfl hl.1 rfl (Nat.le_of_ble_eq_true rfl) dd_MG_put_21 ⟨by omega, by omega⟩) (fun r4 M5 H locs hw6 hP hS => ?_)
    refine W.widen (k := 0) (n := 0) (by omega) (by omega) ?_
    obtain ⟨rfl, eM5⟩ := hw6
    rw [eM5] at hP
    refine lv_bipush (v := nI 6) hx hb dd_MG_put_24 (by decide +kernel) ?_
    refine hn_icmp_lt (tgt := 31) hx hb (by omega) (by omega) dd_MG_put_26 (by decide) (fun c7 => ?_) (fun c7 => ?_)
    · refine lv_aload_n hx hb dd_MG_put_31 rfl (lv_at hl 1 rfl) ?_
      refine hm_get (ci := 4) (C := rn_MG) (T := ft_MG) (N := 2) hx hb hts fi_MG hown hE.K hP m1 rfl 1 (by decide) (hts _ tw_149) (fun _ h9 => h9) rfl dd_MG_put_32 ?_
      refine hm_new (n := 2) (ci := 3) (fs := [.null, .null]) (C := rn_HD) (T := ft_HD) (N := 2) hx hb hts fi_HD fy_HD fo_HD hown (hts _ tw_682) (hts _ tw_684) (hts _ tw_65) hE.K hP hS rfl (fun j hj => by match j, hj with | 0, _ => rfl | 1, _ => rfl | j + 2, hj => exact absurd hj (by omega)) (by omega) (by omega) dd_MG_put_35 (fun q8 H hB_q8 hn_q8 hP hS => ?_)
      have hA_q8 : hm_A B q8 := Nat.le_trans hE.2.1 hB_q8
      obtain ⟨M9, eM9⟩ : ∃ z, z = hm_up M q8 (.inr (3, [.null, .null])) := ⟨_, rfl⟩
      rw [← eM9] at hP
      have ne10 : (N 5) ≠ q8 := hm_neN m1 hn_q8
      have f11 : M9 (N 5) = some (.inr (4, [.ref kk, .ref (N 6)])) := by rw [eM9]; exact hm_up_o ne10 m1
      have ne12 : (N 6) ≠ q8 := hm_neN ll1 hn_q8
      have f13 : M9 (N 6) = some (.inr (9, [.ref d5, .int (nI xs5.length), .int mo6])) := by rw [eM9]; exact hm_up_o ne12 ll1
      have f14 : M9 q8 = some (.inr (3, [.null, .null])) := by rw [eM9]; exact hm_up_s
      refine W.widen (k := 1) (n := 2) (by omega) (by omega) ?_
      refine lv_dup hx hb dd_MG_put_38 rfl ?_
      refine lv_aload_n hx hb dd_MG_put_39 rfl (lv_at hl 2 rfl) ?_
      refine lv_aload_n hx hb dd_MG_put_40 rfl (lv_at hl 3 rfl) ?_
      refine hm_cv hS (hm_rI 2 (As := [.ref u, .ref w]) (rest := [.ref q8, .ref (N 6)]) ⟨hx, hb, hml, hown, hts⟩ hE hS hP (kc_HD_init l B D G M9 q8 f14 hA_q8 u w) tw_687 tw_685 tw_686 tw_65 rfl (by decide +kernel) rfl rfl ⟨by show 1 + 1 ≤ R.frames; omega, by show 8 + (3 + 11) + 12 ≤ R.locals; omega⟩ rfl hl.1 rfl (Nat.le_of_ble_eq_true rfl) dd_MG_put_41 ⟨by omega, by omega⟩) (fun M16 H locs hw17 hP hS => ?_)
      refine W.widen (k := 1) (n := 2) (by omega) (by omega) ?_
      have eM16 := hw17
      have f18 : M16 (N 5) = some (.inr (4, [.ref kk, .ref (N 6)])) := by rw [eM16]; exact hm_up_o ne10 f11
      have f19 : M16 (N 6) = some (.inr (9, [.ref d5, .int (nI xs5.length), .int mo6])) := by rw [eM16]; exact hm_up_o ne12 f13
      have f20 : M16 q8 = some (.inr (3, [.ref u, .ref w])) := by rw [eM16]; exact hm_up_s
      have e3 : M16 = hm_up M q8 (.inr (3, [.ref u, .ref w])) := by rw [eM16, eM9]; exact hm_uu
      have k3 : ∀ z e, M z = some e → M16 z = some e := fun z e hz => by rw [e3]; exact hm_up_o (hm_neN hz hn_q8) hz
      refine hm_ci hS (hm_rV 1 (As := [.ref q8]) (rest := []) ⟨hx, hb, hml, hown, hts⟩ hE hS hP (kc_AL_add0 l B D G M16 3 (Or.inr rfl) (N 6) d5 xs5 n6 f6 mo6 f19 (k3 _ _ ll2) ll3.1 ll3.2.1 ll3.2.2.1 (fun y9 hy9 => by
          obtain ⟨gs, h8⟩ := ll3.2.2.2.1 y9 hy9
          exact ⟨gs, k3 _ _ h8⟩) ll3.2.2.2.2 l3 (by omega) q8 ⟨_, f20⟩ (k3 _ _ hI.g)) rfl f19 tw_703 tw_700 tw_701 tw_702 tw_43 (by decide +kernel) rfl rfl ⟨by show 6 + 1 ≤ R.frames; omega, by show 8 + (2 + 11) + 150 ≤ R.locals; omega⟩ rfl hl.1 rfl (Nat.le_of_ble_eq_true rfl) dd_MG_put_44 ⟨by omega, by omega⟩) (fun r21 M22 H locs hw23 hP hS => ?_)
      refine W.widen (k := 2) (n := 202) (by omega) (by omega) ?_
      obtain ⟨rfl, d1, a1, a2, a3, a4⟩ := hw23
      have hz := ms_add hMd hI (by omega) hn_q8 hA_q8 e3 a1 a2 a3 a4 hu hw
      refine lv_pop hx hb dd_MG_put_47 rfl ?_
      refine lv_iconst (v := nI 1) hx hb dd_MG_put_48 (by decide +kernel) ?_
      exact hm_Ei (v := nI 1) hx hb hr rfl hS hP (by
          obtain ⟨O1, z1, z2⟩ := hz
          exact ⟨bz_1 (by rw [pu_b, hna, decide_eq_true (by omega)]; rfl), O1, by rw [pu_r, if_neg (by rw [hna]; decide), if_pos (by omega)]; exact z1, z2⟩) hlocks (by omega) (by omega) dd_MG_put_49
    · refine lv_iconst (v := nI 0) hx hb dd_MG_put_29 (by decide +kernel) ?_
      exact hm_Ei (v := nI 0) hx hb hr rfl hS hP (⟨bz_0 (by rw [pu_b, hna, decide_eq_false (by omega)]; rfl), O, by rw [pu_r, if_neg (by rw [hna]; decide), if_neg (by omega)]; exact ⟨kk, d5, xs5, hMd⟩, cz_F.rf⟩) hlocks (by omega) (by omega) dd_MG_put_30
  · obtain ⟨s1, s2, q1, q2, q3, q4, q5⟩ := id (l6 j x hd hj hh)
    refine lv_astore_n (lv' := [(3, .ref x), (0, .ref (N 5)), (1, .ref u), (2, .ref w)]) hx hb dd_MG_put_5 rfl hl (by decide) rfl (fun ls hl => ?_)
    refine lv_aload_n hx hb dd_MG_put_6 rfl (lv_at hl 0 rfl) ?_
    refine lv_ifnull hx hb dd_MG_put_7 ?_
    refine lv_aload_n hx hb dd_MG_put_10 rfl (lv_at hl 0 rfl) ?_
    refine lv_aload_n hx hb dd_MG_put_11 rfl (lv_at hl 3 rfl) ?_
    refine hm_putN (ci := 3) (v := .ref w) (ty := .object "java/lang/String") (C := rn_HD) (T := ft_HD) (N := 2) hx hb hts fi_HD fy_HD fo_HD fn_HD hown hE.K hP hS q3 q1 rfl 1 (by decide) (va_Nw.use rfl (hE.nest 13 rfl)) (fun _ h9 => h9) rfl (by decide +kernel) rfl rfl (Nat.le_of_ble_eq_true rfl) dd_MG_put_12 (fun H locs hP hS => ?_)
    have hP : hm_P D cl_W (hm_up M x (.inr (3, [.ref s1, .ref w]))) H := hP
    obtain ⟨M24, eM24⟩ : ∃ z, z = hm_up M x (.inr (3, [.ref s1, .ref w])) := ⟨_, rfl⟩
    rw [← eM24] at hP
    have f25 : M24 (N 5) = some (.inr (4, [.ref kk, .ref (N 6)])) := by rw [eM24]; exact hm_up_o (hm_ne m1 q1 (by intro h9; cases h9)) m1
    have f26 : M24 (N 6) = some (.inr (9, [.ref d5, .int (nI xs5.length), .int mo6])) := by rw [eM24]; exact hm_up_o (hm_ne ll1 q1 (by intro h9; cases h9)) ll1
    have f27 : M24 x = some (.inr (3, [.ref s1, .ref w])) := by rw [eM24]; exact hm_up_s
    refine lv_iconst (v := nI 1) hx hb dd_MG_put_15 (by decide +kernel) ?_
    exact hm_Ei (v := nI 1) hx hb hr rfl hS hP (by
        have hya : pu_a n1 hs = true := List.any_eq_true.mpr ⟨hd, List.mem_of_getElem? hh, decide_eq_true hn1⟩
        have hp := ms_put hMd hj hh q1 q2 q3 q4 hw eM24
        rw [← pu_set hs j hd hh hn1 hno] at hp
        exact ⟨bz_1 (by rw [pu_b, hya]; rfl), O, by rw [pu_r, if_pos hya]; exact hp.1, hp.2⟩) hlocks (by omega) (by omega) dd_MG_put_16
