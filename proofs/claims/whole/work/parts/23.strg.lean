/-! strings that are made; colours -/
def hm_w (M M1 : hm_M) : hm_M := fun q => match M q with
  | none => M1 q
  | some _ => none
theorem hm_w_n {M M1 : hm_M} {q : Nat} {x : va_E} (h : M q = none) (h1 : M1 q = some x) : hm_w M M1 q = some x := by unfold hm_w; rw [h]; exact h1
theorem hm_w_i {M M1 : hm_M} {q : Nat} {x : va_E} (h : hm_w M M1 q = some x) : M q = none ∧ M1 q = some x := by
  unfold hm_w at h
  cases hm : M q with
  | none => rw [hm] at h; exact ⟨rfl, h⟩
  | some y => rw [hm] at h; cases h
theorem tx_mono {D : va_G} {M M1 : hm_M} {a : Nat} {t : List Nat} (h : ∀ q e, M q = some e → M1 q = some e) (ht : tx_S D M a t) : tx_S D M1 a t := by
  obtain ⟨v, f, h1, h2, h3⟩ := ht
  exact ⟨v, f, h _ _ h1, h _ _ h2, h3⟩
/-- what is never written again: the cells of colour 0 -/
def cz_I (O : Nat → Nat) (M : hm_M) : hm_M := fun q => if O q = 0 then M q else none
/-- the colours when cells are new -/
def cz_z (O : Nat → Nat) (M : hm_M) (c : Nat → Nat) : Nat → Nat := fun q => match M q with
  | none => c q
  | some _ => O q
theorem cz_z_o {O c : Nat → Nat} {M : hm_M} {q : Nat} {x : va_E} (h : M q = some x) : cz_z O M c q = O q := by unfold cz_z; rw [h]
theorem cz_z_n {O c : Nat → Nat} {M : hm_M} {q : Nat} (h : M q = none) : cz_z O M c q = c q := by unfold cz_z; rw [h]
theorem cz_I_i {O : Nat → Nat} {M : hm_M} {q : Nat} {x : va_E} (h : cz_I O M q = some x) : O q = 0 ∧ M q = some x := by
  unfold cz_I at h
  split at h
  · exact ⟨by assumption, h⟩
  · cases h
theorem cz_I_m {O : Nat → Nat} {M : hm_M} {q : Nat} {x : va_E} (h0 : O q = 0) (h : M q = some x) : cz_I O M q = some x := by unfold cz_I; rw [if_pos h0]; exact h
theorem cz_I_sub {O : Nat → Nat} {M : hm_M} {q : Nat} {x : va_E} (h : cz_I O M q = some x) : M q = some x := (cz_I_i h).2
/-- a frame: known cells stay known, keep their colours, and what they hold unless p says otherwise -/
def cz_F (O : Nat → Nat) (M : hm_M) (O1 : Nat → Nat) (M1 : hm_M) (p : Nat → Prop) : Prop := ∀ (q : Nat) (e : va_E), M q = some e → O1 q = O q ∧ (¬ p (O q) → M1 q = some e) ∧ ∃ e2, M1 q = some e2
theorem cz_F.rf {O : Nat → Nat} {M : hm_M} {p : Nat → Prop} : cz_F O M O M p := fun _ _ h => ⟨rfl, fun _ => h, _, h⟩
theorem cz_F.up {O : Nat → Nat} {M : hm_M} {p : Nat → Prop} {a : Nat} {e : va_E} (h : p (O a)) : cz_F O M O (hm_up M a e) p := fun q x hq => ⟨rfl, fun hn => hm_up_o (fun e2 => hn (by rw [e2]; exact h)) hq, by
  by_cases e2 : q = a
  · exact ⟨e, by rw [e2]; exact hm_up_s⟩
  · exact ⟨x, hm_up_o e2 hq⟩⟩
theorem cz_F.imm {O O1 : Nat → Nat} {M M1 : hm_M} {p : Nat → Prop} (h : cz_F O M O1 M1 p) (h0 : ¬ p 0) {q : Nat} {x : va_E} (hq : cz_I O M q = some x) : cz_I O1 M1 q = some x := by
  obtain ⟨h1, h2⟩ := cz_I_i hq
  have := h q x h2
  exact cz_I_m (this.1.trans h1) (this.2.1 (by rw [h1]; exact h0))
theorem cz_F.tx {O O1 : Nat → Nat} {M M1 : hm_M} {p : Nat → Prop} {D : va_G} {a : Nat} {t : List Nat} (h : cz_F O M O1 M1 p) (h0 : ¬ p 0) (ht : tx_S D (cz_I O M) a t) : tx_S D (cz_I O1 M1) a t := tx_mono (fun _ _ hq => h.imm h0 hq) ht
theorem cz_F.k {O c : Nat → Nat} {M M1 : hm_M} {S : List Nat} {p : Nat → Prop} (h : hm_k M M1 S) (hS : ∀ x ∈ S, p (O x) ∧ ∃ e2, M1 x = some e2) : cz_F O M (cz_z O M c) M1 p := fun q e hq => ⟨cz_z_o hq, fun hn => h q e hq (fun hm => hn (hS q hm).1), by
  by_cases hm : q ∈ S
  · exact (hS q hm).2
  · exact ⟨e, h q e hq hm⟩⟩
theorem cz_F.k0 {O : Nat → Nat} {M M1 : hm_M} {S : List Nat} {p : Nat → Prop} (h : hm_k M M1 S) (hS : ∀ x ∈ S, p (O x) ∧ ∃ e2, M1 x = some e2) : cz_F O M O M1 p := fun q e hq => ⟨rfl, fun hn => h q e hq (fun hm => hn (hS q hm).1), by
  by_cases hm : q ∈ S
  · exact (hS q hm).2
  · exact ⟨e, h q e hq hm⟩⟩
theorem cz_F.mono {O O1 : Nat → Nat} {M M1 : hm_M} {p p2 : Nat → Prop} (h : cz_F O M O1 M1 p) (hp : ∀ c, p c → p2 c) : cz_F O M O1 M1 p2 := fun q e hq => ⟨(h q e hq).1, fun hn => (h q e hq).2.1 (fun hc => hn (hp _ hc)), (h q e hq).2.2⟩
theorem cz_F.trans {O O1 O2 : Nat → Nat} {M M1 M2 : hm_M} {p : Nat → Prop} (h : cz_F O M O1 M1 p) (h2 : cz_F O1 M1 O2 M2 p) : cz_F O M O2 M2 p := fun q e hq => by
  obtain ⟨a1, a2, e2, he2⟩ := h q e hq
  have b := h2 q e2 he2
  refine ⟨b.1.trans a1, fun hn => ?_, b.2.2⟩
  have h3 := a2 hn
  rw [he2] at h3
  cases h3
  exact b.2.1 (by rw [a1]; exact hn)
theorem cz_tx_w {D : va_G} {O : Nat → Nat} {M M1 : hm_M} {a : Nat} {t : List Nat} {c : Nat → Nat} (h : tx_S D (hm_w M M1) a t) (hc : ∀ q, c q = 0) : tx_S D (cz_I (cz_z O M c) M1) a t := tx_mono (fun q e hq => by
  obtain ⟨h1, h2⟩ := hm_w_i hq
  exact cz_I_m ((cz_z_n h1).trans (hc q)) h2) h
theorem tx_fix {t : List Nat} {f : Nat → Int32} (h3 : ∀ j, j < t.length → f j = nI (t.getD j 0)) (h4 : ∀ c ∈ t, c < 128) : by_F t.length f := fun j hj => ⟨_, tx_lt h4 j, h3 j hj⟩
theorem tx_len {t : List Nat} {i n : Nat} (h : i + n ≤ t.length) : (tx_sl t i (i + n)).length = n := by rw [tx_sl_len h]; omega
theorem tx_sl_lt {t : List Nat} {i n : Nat} (hn : n ≤ t.length) (h : ∀ c ∈ t, c < 128) : ∀ c ∈ tx_sl t i n, c < 128 := fun c hc => by
  obtain ⟨j, -, -, e⟩ := tx_sl_mem hn hc
  rw [← e]; exact tx_lt h j

set_option maxHeartbeats 4000000 in
set_option maxRecDepth 100000 in
theorem kc_ST_init2 (l : Launch) (B : Nat) (D : va_G) (G : Nat → Nat) (M : hm_M) (a : Nat) (ha : M a = some (.inr (8, [.null, .int (nI 0)]))) (hA_a : hm_A B a) (v : Nat) : Met l yy_ST_init2 ws_ST_init2 ({ frames := 1, cells := 0, slots := 0, locals := 12 }) (hm_Pc B D G M [.ref a, .ref v, .int (nI 0)]) (hm_Nv B D (fun M1 => M1 = hm_up M a (.inr (8, [.ref v, .int (nI 0)])))) (0) (0) (hm_A B) := by
  refine Met.ofW (cc := cd_ST_init2) (maxL := 3) (ret := none) (by decide) rfl ?_
  intro p e s m args below meth c s₁ B0 hml hv
  obtain ⟨rfl, hE, hP⟩ := hv
  have hx := B0.exec
  have hb := B0.bytes
  have hr := B0.returns
  have hts : ∀ w ∈ tb_G, w.before _ s = true := fun w h => atoms_spec (ws := ws_ST_init2) B0.pre w (List.mem_cons_of_mem _ h)
  have hown : s.vm.findClass "java/lang/String" = some m.cls := findClass_of_methodNamed B0.named
  have hlocks := B0.notSynchronized
  have hRf : (headSpec ws_ST_init2 { frames := 1, cells := 0, slots := 0, locals := 12 }).room.frames = 1 := rfl
  have hRl : (headSpec ws_ST_init2 { frames := 1, cells := 0, slots := 0, locals := 12 }).room.locals = 12 := rfl
  have hRc : (headSpec ws_ST_init2 { frames := 1, cells := 0, slots := 0, locals := 12 }).room.cells = 0 := rfl
  have hRs : (headSpec ws_ST_init2 { frames := 1, cells := 0, slots := 0, locals := 12 }).room.slots = 0 := rfl
  generalize (headSpec ws_ST_init2 { frames := 1, cells := 0, slots := 0, locals := 12 }).room = R at hRf hRl hRc hRs ⊢
  have hin : meth.name = "<init>" := (name_of_methodNamed B0.named B0.method).1
  have hS : va_S (hm_A B) s.heap s.heap [] := va_S.rf
  have hl := lv_entry ([.ref a, .ref v, .int (nI 0)]) (n := 3) (Nat.le_of_ble_eq_true rfl)
  rw [lg_entry_eq]
  generalize (lg_sl ([.ref a, .ref v, .int (nI 0)]) ++ List.replicate (3 - (lg_sl ([.ref a, .ref v, .int (nI 0)])).length) Slot.unset).toArray = ls at hl ⊢
  have hl : lv_has ls 3 [(0, .ref a), (1, .ref v), (2, .int (nI 0))] := hl
  refine lv_aload_n hx hb dd_ST_init2_0 rfl (lv_at hl 0 rfl) ?_
  refine W.objInit hx hb hown (hts _ tw_378) (hts _ tw_74) (hts _ tw_75) rfl (by rw [hml]; exact hl.1) rfl dd_ST_init2_1 (by omega) (by rw [hRl]; exact Nat.le_of_ble_eq_true rfl) ?_
  refine W.eq (g2 := F0 m 4 ls []) rfl ?_
  refine lv_aload_n hx hb dd_ST_init2_4 rfl (lv_at hl 0 rfl) ?_
  refine lv_aload_n hx hb dd_ST_init2_5 rfl (lv_at hl 1 rfl) ?_
  refine hm_putF (ci := 8) (v := .ref v) (ty := .array .byte) (C := rn_ST) (T := ft_ST) (N := 2) hx hb hts fi_ST fy_ST fo_ST fn_ST hown hE.K hP hS hA_a ha rfl 0 (by decide) (hts _ tw_550) (fun _ h9 => h9) rfl hin rfl (by decide +kernel) rfl rfl (Nat.le_of_ble_eq_true rfl) dd_ST_init2_6 (fun H locs hP hS => ?_)
  have hP : hm_P D cl_W (hm_up M a (.inr (8, [.ref v, .int (nI 0)]))) H := hP
  obtain ⟨M1, eM1⟩ : ∃ z, z = hm_up M a (.inr (8, [.ref v, .int (nI 0)])) := ⟨_, rfl⟩
  rw [← eM1] at hP
  have f2 : M1 a = some (.inr (8, [.ref v, .int (nI 0)])) := by rw [eM1]; exact hm_up_s
  refine lv_aload_n hx hb dd_ST_init2_9 rfl (lv_at hl 0 rfl) ?_
  refine lv_iload_n hx hb dd_ST_init2_10 rfl (lv_at hl 2 rfl) ?_
  refine hm_putF (ci := 8) (v := .int (nI 0)) (ty := .byte) (C := rn_ST) (T := ft_ST) (N := 2) hx hb hts fi_ST fy_ST fo_ST fn_ST hown hE.K hP hS hA_a f2 rfl 1 (by decide) (hts _ tw_551) (fun _ h9 => h9) rfl hin rfl (by decide +kernel) rfl rfl (Nat.le_of_ble_eq_true rfl) dd_ST_init2_11 (fun H locs hP hS => ?_)
  have hP : hm_P D cl_W (hm_up M1 a (.inr (8, [.ref v, .int (nI 0)]))) H := hP
  obtain ⟨M3, eM3⟩ : ∃ z, z = hm_up M1 a (.inr (8, [.ref v, .int (nI 0)])) := ⟨_, rfl⟩
  rw [← eM3] at hP
  have f4 : M3 a = some (.inr (8, [.ref v, .int (nI 0)])) := by rw [eM3]; exact hm_up_s
  exact hm_Ev hx hb hr hS hP (by rw [eM3, eM1]; exact hm_uu) hlocks (by omega) (by omega) dd_ST_init2_14
set_option maxHeartbeats 4000000 in
set_option maxRecDepth 100000 in
theorem kc_ST_init1 (l : Launch) (B : Nat) (D : va_G) (G : Nat → Nat) (M : hm_M) (a : Nat) (ha : M a = some (.inr (8, [.null, .int (nI 0)]))) (hA_a : hm_A B a) (b v mm : Nat) (f : Nat → Int32) (ml : Nat) (t : List Nat) (ht : sb_C B D M b v mm f ml t) : Met l yy_ST_init1 ws_ST_init1 ({ frames := 3, cells := 1, slots := 100, locals := 86 }) (hm_Pc B D G M [.ref a, .ref b, .null]) (hm_Nv B D (fun M1 => ∃ q g, M1 a = some (.inr (8, [.ref q, .int (nI 0)])) ∧ M1 q = some (.inl (D.1 100, t.length, .inl g)) ∧ (∀ j, j < t.length → g j = f j) ∧ M q = none ∧ hm_k M M1 [a])) (1) (100) (hm_A B) := by
  refine Met.ofW (cc := cd_ST_init1) (maxL := 5) (ret := none) (by decide) rfl ?_
  intro p e s m args below meth c s₁ B0 hml hv
  obtain ⟨rfl, hE, hP⟩ := hv
  have hx := B0.exec
  have hb := B0.bytes
  have hr := B0.returns
  have hts : ∀ w ∈ tb_G, w.before _ s = true := fun w h => atoms_spec (ws := ws_ST_init1) B0.pre w (List.mem_cons_of_mem _ h)
  have hown : s.vm.findClass "java/lang/String" = some m.cls := findClass_of_methodNamed B0.named
  have hlocks := B0.notSynchronized
  have hRf : (headSpec ws_ST_init1 { frames := 3, cells := 1, slots := 100, locals := 86 }).room.frames = 3 := rfl
  have hRl : (headSpec ws_ST_init1 { frames := 3, cells := 1, slots := 100, locals := 86 }).room.locals = 86 := rfl
  have hRc : (headSpec ws_ST_init1 { frames := 3, cells := 1, slots := 100, locals := 86 }).room.cells = 1 := rfl
  have hRs : (headSpec ws_ST_init1 { frames := 3, cells := 1, slots := 100, locals := 86 }).room.slots = 100 := rfl
  generalize (headSpec ws_ST_init1 { frames := 3, cells := 1, slots := 100, locals := 86 }).room = R at hRf hRl hRc hRs ⊢
  have hin : meth.name = "<init>" := (name_of_methodNamed B0.named B0.method).1
  have hS : va_S (hm_A B) s.heap s.heap [] := va_S.rf
  have hl := lv_entry ([.ref a, .ref b, .null]) (n := 5) (Nat.le_of_ble_eq_true rfl)
  rw [lg_entry_eq]
  generalize (lg_sl ([.ref a, .ref b, .null]) ++ List.replicate (5 - (lg_sl ([.ref a, .ref b, .null])).length) Slot.unset).toArray = ls at hl ⊢
  have hl : lv_has ls 5 [(0, .ref a), (1, .ref b), (2, .null)] := hl
  obtain ⟨h1, h2, h3, h4, h5, h6, h7, hA_b, hA_v⟩ := id ht
  refine lv_aload_n hx hb dd_ST_init1_0 rfl (lv_at hl 0 rfl) ?_
  refine W.objInit hx hb hown (hts _ tw_378) (hts _ tw_74) (hts _ tw_75) rfl (by rw [hml]; exact hl.1) rfl dd_ST_init1_1 (by omega) (by rw [hRl]; exact Nat.le_of_ble_eq_true rfl) ?_
  refine W.eq (g2 := F0 m 4 ls []) rfl ?_
  refine lv_aload_n hx hb dd_ST_init1_4 rfl (lv_at hl 1 rfl) ?_
  refine hm_cr hS (hm_rV 0 (As := []) (rest := []) ⟨hx, hb, hml, hown, hts⟩ hE hS hP (kc_AB_getValue l B D G M b v mm f ml t ht) rfl h1 tw_383 tw_379 tw_380 tw_382 tw_37 (by decide +kernel) rfl rfl ⟨by show 0 + 1 ≤ R.frames; omega, by show 8 + (1 + 11) + 0 ≤ R.locals; omega⟩ rfl hl.1 rfl (Nat.le_of_ble_eq_true rfl) dd_ST_init1_5 ⟨by omega, by omega⟩) (fun r1 M2 H locs hw3 hP hS => ?_)
  refine W.widen (k := 0) (n := 0) (by omega) (by omega) ?_
  obtain ⟨erM2, eM2⟩ := hw3
  rw [eM2] at hP
  rw [erM2]
  refine lv_astore_n (lv' := [(3, .ref v), (0, .ref a), (1, .ref b), (2, .null)]) hx hb dd_ST_init1_8 rfl hl (by decide) rfl (fun ls hl => ?_)
  refine lv_aload_n hx hb dd_ST_init1_9 rfl (lv_at hl 2 rfl) ?_
  refine hm_ci hS (hm_rO 0 (x := ({ cls := "java/lang/AbstractStringBuilder", name := "length", desc := "()I" } : Jvm.MethodName)) (As := []) (rest := []) ⟨hx, hb, hml, hown, hts⟩ hE hS hP (kc_SB_length l B D G M b v mm f ml t ht) rfl h1 tw_210 tw_384 tw_1195 tw_212 tw_1200 tw_208 tw_38 tw_213 (by decide +kernel) rfl rfl ⟨by show 1 + 1 ≤ R.frames; omega, by show 8 + (1 + 11) + 20 ≤ R.locals; omega⟩ rfl hl.1 rfl (Nat.le_of_ble_eq_true rfl) dd_ST_init1_10 ⟨by omega, by omega⟩) (fun r4 M5 H locs hw6 hP hS => ?_)
  refine W.widen (k := 0) (n := 0) (by omega) (by omega) ?_
  obtain ⟨rfl, eM5⟩ := hw6
  rw [eM5] at hP
  refine lv_istore (lv' := [(4, .int (nI t.length)), (3, .ref v), (0, .ref a), (1, .ref b), (2, .null)]) hx hb dd_ST_init1_13 hl (by decide) rfl (fun ls hl => ?_)
  refine lv_aload_n hx hb dd_ST_init1_15 rfl (lv_at hl 3 rfl) ?_
  refine hm_ci hS (hm_rV 0 (As := []) (rest := []) ⟨hx, hb, hml, hown, hts⟩ hE hS hP (kc_AB_isLatin1 l B D G M b v mm f ml t ht) rfl h1 tw_263 tw_385 tw_260 tw_262 tw_37 (by decide +kernel) rfl rfl ⟨by show 0 + 1 ≤ R.frames; omega, by show 8 + (1 + 11) + 0 ≤ R.locals; omega⟩ rfl hl.1 rfl (Nat.le_of_ble_eq_true rfl) dd_ST_init1_16 ⟨by omega, by omega⟩) (fun r7 M8 H locs hw9 hP hS => ?_)
  refine W.widen (k := 0) (n := 0) (by omega) (by omega) ?_
  obtain ⟨rfl, eM8⟩ := hw9
  rw [eM8] at hP
  refine hn_if_eq (tgt := 41) hx hb (by omega) dd_ST_init1_19 (by decide) (fun c10 => absurd c10 (by omega)) (fun c10 => ?_)
  refine lv_aload_n hx hb dd_ST_init1_22 rfl (lv_at hl 2 rfl) ?_
  refine lv_iconst (v := nI 0) hx hb dd_ST_init1_23 (by decide +kernel) ?_
  refine hm_putF (ci := 8) (v := .int (nI 0)) (ty := .byte) (C := rn_ST) (T := ft_ST) (N := 2) hx hb hts fi_ST fy_ST fo_ST fn_ST hown hE.K hP hS hA_a ha rfl 1 (by decide) (hts _ tw_551) (fun _ h9 => h9) rfl hin rfl (by decide +kernel) rfl rfl (Nat.le_of_ble_eq_true rfl) dd_ST_init1_24 (fun H locs hP hS => ?_)
  have hP : hm_P D cl_W (hm_up M a (.inr (8, [.null, .int (nI 0)]))) H := hP
  obtain ⟨M11, eM11⟩ : ∃ z, z = hm_up M a (.inr (8, [.null, .int (nI 0)])) := ⟨_, rfl⟩
  rw [← eM11] at hP
  have f12 : M11 v = some (.inl (D.1 100, mm, .inl f)) := by rw [eM11]; exact hm_up_o (hm_ne h2 ha (by intro h9; cases h9)) h2
  have f13 : M11 b = some (.inr (7, [.ref v, .int (nI 0), .int (nI ml), .int (nI t.length)])) := by rw [eM11]; exact hm_up_o (hm_ne h1 ha (by intro h9; cases h9)) h1
  have f14 : M11 a = some (.inr (8, [.null, .int (nI 0)])) := by rw [eM11]; exact hm_up_s
  refine lv_aload_n hx hb dd_ST_init1_27 rfl (lv_at hl 2 rfl) ?_
  refine lv_aload_n hx hb dd_ST_init1_28 rfl (lv_at hl 1 rfl) ?_
  refine lv_iconst (v := nI 0) hx hb dd_ST_init1_29 (by decide +kernel) ?_
  refine lv_iload hx hb dd_ST_init1_30 (lv_at hl 0 rfl) ?_
  refine hm_cr hS (hm_rS 3 (As := [.ref v, .int (nI 0), .int (nI t.length)]) (rest := [.ref a]) ⟨hx, hb, hml, hown, hts⟩ hE hS hP (kc_AR_copyOfRange l B D G M11 v mm f f12 h3 (by omega) 0 t.length (by omega) (by omega) (Or.inl hA_v)) tw_388 tw_386 tw_387 tw_49 (by decide +kernel) rfl rfl ⟨by show 2 + 1 ≤ R.frames; omega, by show 8 + (3 + 11) + 64 ≤ R.locals; omega⟩ rfl hl.1 rfl (Nat.le_of_ble_eq_true rfl) dd_ST_init1_32 ⟨by omega, by omega⟩) (fun r15 M16 H locs hw17 hP hS => ?_)
  refine W.widen (k := 1) (n := 100) (by omega) (by omega) ?_
  obtain ⟨g, k1, k2, eM16, k3, k4⟩ := hw17
  have hA_r15 : hm_A B r15 := k2
  have ne18 : a ≠ r15 := hm_neN f14 k1
  have f19 : M16 a = some (.inr (8, [.null, .int (nI 0)])) := by rw [eM16]; exact hm_up_o ne18 f14
  have ne20 : v ≠ r15 := hm_neN f12 k1
  have f21 : M16 v = some (.inl (D.1 100, mm, .inl f)) := by rw [eM16]; exact hm_up_o ne20 f12
  have ne22 : b ≠ r15 := hm_neN f13 k1
  have f23 : M16 b = some (.inr (7, [.ref v, .int (nI 0), .int (nI ml), .int (nI t.length)])) := by rw [eM16]; exact hm_up_o ne22 f13
  have f24 : M16 r15 = some (.inl (D.1 100, (t.length - 0), .inl g)) := by rw [eM16]; exact hm_up_s
  refine hm_putF (ci := 8) (v := .ref r15) (ty := .array .byte) (C := rn_ST) (T := ft_ST) (N := 2) hx hb hts fi_ST fy_ST fo_ST fn_ST hown hE.K hP hS hA_a f19 rfl 0 (by decide) (hts _ tw_550) (fun _ h9 => h9) rfl hin rfl (by decide +kernel) rfl rfl (Nat.le_of_ble_eq_true rfl) dd_ST_init1_35 (fun H locs hP hS => ?_)
  have hP : hm_P D cl_W (hm_up M16 a (.inr (8, [.ref r15, .int (nI 0)]))) H := hP
  obtain ⟨M25, eM25⟩ : ∃ z, z = hm_up M16 a (.inr (8, [.ref r15, .int (nI 0)])) := ⟨_, rfl⟩
  rw [← eM25] at hP
  have f26 : M25 v = some (.inl (D.1 100, mm, .inl f)) := by rw [eM25]; exact hm_up_o (hm_ne f21 f19 (by intro h9; cases h9)) f21
  have f27 : M25 b = some (.inr (7, [.ref v, .int (nI 0), .int (nI ml), .int (nI t.length)])) := by rw [eM25]; exact hm_up_o (hm_ne f23 f19 (by intro h9; cases h9)) f23
  have f28 : M25 r15 = some (.inl (D.1 100, (t.length - 0), .inl g)) := by rw [eM25]; exact hm_up_o (Ne.symm ne18) f24
  have f29 : M25 a = some (.inr (8, [.ref r15, .int (nI 0)])) := by rw [eM25]; exact hm_up_s
  refine lv_goto (tgt := 97) hx hb dd_ST_init1_38 (by decide) ?_
  have kk30 : hm_k M M [a] := hm_krf
  have kk31 : hm_k M M11 [a] := hm_ku kk30 (Or.inr (by simp)) eM11
  have ko33 := hm_kn0 kk31 k1
  have kk32 : hm_k M M16 [a] := hm_kn kk31 k1 eM16
  have kk34 : hm_k M M25 [a] := hm_ku kk32 (Or.inr (by simp)) eM25
  exact hm_Ev hx hb hr hS hP (⟨r15, g, f29, f28, fun j hj => by rw [k4 j (by omega), Nat.zero_add], ko33.resolve_right (fun h9 => hm_neN f14 k1 (List.mem_singleton.mp h9).symm), kk34⟩) hlocks (by omega) (by omega) dd_ST_init1_97
set_option maxHeartbeats 4000000 in
set_option maxRecDepth 100000 in
theorem kc_ST_init0 (l : Launch) (B : Nat) (D : va_G) (G : Nat → Nat) (M : hm_M) (a : Nat) (ha : M a = some (.inr (8, [.null, .int (nI 0)]))) (hA_a : hm_A B a) (b v mm : Nat) (f : Nat → Int32) (ml : Nat) (t : List Nat) (ht : sb_C B D M b v mm f ml t) : Met l yy_ST_init0 ws_ST_init0 ({ frames := 4, cells := 1, slots := 100, locals := 110 }) (hm_Pc B D G M [.ref a, .ref b]) (hm_Nv B D (fun M1 => ∃ q g, M1 a = some (.inr (8, [.ref q, .int (nI 0)])) ∧ M1 q = some (.inl (D.1 100, t.length, .inl g)) ∧ (∀ j, j < t.length → g j = f j) ∧ M q = none ∧ hm_k M M1 [a])) (1) (100) (hm_A B) := by
  refine Met.ofW (cc := cd_ST_init0) (maxL := 2) (ret := none) (by decide) rfl ?_
  intro p e s m args below meth c s₁ B0 hml hv
  obtain ⟨rfl, hE, hP⟩ := hv
  have hx := B0.exec
  have hb := B0.bytes
  have hr := B0.returns
  have hts : ∀ w ∈ tb_G, w.before _ s = true := fun w h => atoms_spec (ws := ws_ST_init0) B0.pre w (List.mem_cons_of_mem _ h)
  have hown : s.vm.findClass "java/lang/String" = some m.cls := findClass_of_methodNamed B0.named
  have hlocks := B0.notSynchronized
  have hRf : (headSpec ws_ST_init0 { frames := 4, cells := 1, slots := 100, locals := 110 }).room.frames = 4 := rfl
  have hRl : (headSpec ws_ST_init0 { frames := 4, cells := 1, slots := 100, locals := 110 }).room.locals = 110 := rfl
  have hRc : (headSpec ws_ST_init0 { frames := 4, cells := 1, slots := 100, locals := 110 }).room.cells = 1 := rfl
  have hRs : (headSpec ws_ST_init0 { frames := 4, cells := 1, slots := 100, locals := 110 }).room.slots = 100 := rfl
  generalize (headSpec ws_ST_init0 { frames := 4, cells := 1, slots := 100, locals := 110 }).room = R at hRf hRl hRc hRs ⊢
  have hin : meth.name = "<init>" := (name_of_methodNamed B0.named B0.method).1
  have hS : va_S (hm_A B) s.heap s.heap [] := va_S.rf
  have hl := lv_entry ([.ref a, .ref b]) (n := 2) (Nat.le_of_ble_eq_true rfl)
  rw [lg_entry_eq]
  generalize (lg_sl ([.ref a, .ref b]) ++ List.replicate (2 - (lg_sl ([.ref a, .ref b])).length) Slot.unset).toArray = ls at hl ⊢
  have hl : lv_has ls 2 [(0, .ref a), (1, .ref b)] := hl
  obtain ⟨h1, h2, h3, h4, h5, h6, h7, hA_b, hA_v⟩ := id ht
  refine lv_aload_n hx hb dd_ST_init0_0 rfl (lv_at hl 0 rfl) ?_
  refine lv_aload_n hx hb dd_ST_init0_1 rfl (lv_at hl 1 rfl) ?_
  refine lv_null hx hb dd_ST_init0_2 ?_
  refine hm_cv hS (hm_rI 2 (As := [.ref b, .null]) (rest := []) ⟨hx, hb, hml, hown, hts⟩ hE hS hP (kc_ST_init1 l B D G M a ha hA_a b v mm f ml t ht) tw_377 tw_375 tw_376 tw_39 rfl (by decide +kernel) rfl rfl ⟨by show 3 + 1 ≤ R.frames; omega, by show 8 + (5 + 11) + 86 ≤ R.locals; omega⟩ rfl hl.1 rfl (Nat.le_of_ble_eq_true rfl) dd_ST_init0_3 ⟨by omega, by omega⟩) (fun M2 H locs hw3 hP hS => ?_)
  refine W.widen (k := 1) (n := 100) (by omega) (by omega) ?_
  have k9 := hw3
  exact hm_Ev hx hb hr hS hP (k9) hlocks (by omega) (by omega) dd_ST_init0_6
set_option maxHeartbeats 4000000 in
set_option maxRecDepth 100000 in
theorem kc_SB_toString (l : Launch) (B : Nat) (D : va_G) (G : Nat → Nat) (M : hm_M) (b v mm : Nat) (f : Nat → Int32) (ml : Nat) (t : List Nat) (ht : sb_C B D M b v mm f ml t) : Met l yy_SB_toString ws_SB_toString ({ frames := 5, cells := 2, slots := 104, locals := 131 }) (hm_Pc B D G M [.ref b]) (hm_Nr B D (fun r M1 => tx_S D (hm_w M M1) r t ∧ hm_k M M1 [])) (2) (104) (hm_A B) := by
  refine Met.ofW (cc := cd_SB_toString) (maxL := 1) (ret := ((some (FieldType.object "java/lang/String")))) (by decide) rfl ?_
  intro p e s m args below meth c s₁ B0 hml hv
  obtain ⟨rfl, hE, hP⟩ := hv
  have hx := B0.exec
  have hb := B0.bytes
  have hr := B0.returns
  have hts : ∀ w ∈ tb_G, w.before _ s = true := fun w h => atoms_spec (ws := ws_SB_toString) B0.pre w (List.mem_cons_of_mem _ h)
  have hown : s.vm.findClass "java/lang/StringBuilder" = some m.cls := findClass_of_methodNamed B0.named
  have hlocks := B0.notSynchronized
  have hRf : (headSpec ws_SB_toString { frames := 5, cells := 2, slots := 104, locals := 131 }).room.frames = 5 := rfl
  have hRl : (headSpec ws_SB_toString { frames := 5, cells := 2, slots := 104, locals := 131 }).room.locals = 131 := rfl
  have hRc : (headSpec ws_SB_toString { frames := 5, cells := 2, slots := 104, locals := 131 }).room.cells = 2 := rfl
  have hRs : (headSpec ws_SB_toString { frames := 5, cells := 2, slots := 104, locals := 131 }).room.slots = 104 := rfl
  generalize (headSpec ws_SB_toString { frames := 5, cells := 2, slots := 104, locals := 131 }).room = R at hRf hRl hRc hRs ⊢
  have hS : va_S (hm_A B) s.heap s.heap [] := va_S.rf
  have hl := lv_entry ([.ref b]) (n := 1) (Nat.le_of_ble_eq_true rfl)
  rw [lg_entry_eq]
  generalize (lg_sl ([.ref b]) ++ List.replicate (1 - (lg_sl ([.ref b])).length) Slot.unset).toArray = ls at hl ⊢
  have hl : lv_has ls 1 [(0, .ref b)] := hl
  obtain ⟨h1, h2, h3, h4, h5, h6, h7, hA_b, hA_v⟩ := id ht
  refine hm_new (n := 4) (ci := 8) (fs := [.null, .int (nI 0)]) (C := rn_ST) (T := ft_ST) (N := 2) hx hb hts fi_ST fy_ST fo_ST hown (hts _ tw_370) (hts _ tw_371) (hts _ tw_39) hE.K hP hS rfl (fun j hj => by match j, hj with | 0, _ => rfl | 1, _ => rfl | j + 2, hj => exact absurd hj (by omega)) (by omega) (by omega) dd_SB_toString_0 (fun q1 H hB_q1 hn_q1 hP hS => ?_)
  have hA_q1 : hm_A B q1 := Nat.le_trans hE.2.1 hB_q1
  obtain ⟨M2, eM2⟩ : ∃ z, z = hm_up M q1 (.inr (8, [.null, .int (nI 0)])) := ⟨_, rfl⟩
  rw [← eM2] at hP
  have ne3 : v ≠ q1 := hm_neN h2 hn_q1
  have f4 : M2 v = some (.inl (D.1 100, mm, .inl f)) := by rw [eM2]; exact hm_up_o ne3 h2
  have ne5 : b ≠ q1 := hm_neN h1 hn_q1
  have f6 : M2 b = some (.inr (7, [.ref v, .int (nI 0), .int (nI ml), .int (nI t.length)])) := by rw [eM2]; exact hm_up_o ne5 h1
  have f7 : M2 q1 = some (.inr (8, [.null, .int (nI 0)])) := by rw [eM2]; exact hm_up_s
  refine W.widen (k := 1) (n := 4) (by omega) (by omega) ?_
  refine lv_dup hx hb dd_SB_toString_3 rfl ?_
  refine lv_aload_n hx hb dd_SB_toString_4 rfl (lv_at hl 0 rfl) ?_
  refine hm_cv hS (hm_rI 1 (As := [.ref b]) (rest := [.ref q1]) ⟨hx, hb, hml, hown, hts⟩ hE hS hP (kc_ST_init0 l B D G M2 q1 f7 hA_q1 b v mm f ml t ⟨f6, f4, h3, h4, h5, h6, h7, hA_b, hA_v⟩) tw_374 tw_372 tw_373 tw_39 rfl (by decide +kernel) rfl rfl ⟨by show 4 + 1 ≤ R.frames; omega, by show 8 + (2 + 11) + 110 ≤ R.locals; omega⟩ rfl hl.1 rfl (Nat.le_of_ble_eq_true rfl) dd_SB_toString_5 ⟨by omega, by omega⟩) (fun M9 H locs hw10 hP hS => ?_)
  refine W.widen (k := 2) (n := 104) (by omega) (by omega) ?_
  obtain ⟨u, g, k1, k2, k3, k4, k5⟩ := hw10
  have kk11 : hm_k M M [] := hm_krf
  have ko13 := hm_kn0 kk11 hn_q1
  have kk12 : hm_k M M2 [] := hm_kn kk11 hn_q1 eM2
  have kk14 : hm_k M M9 [] := hm_kt kk12 k5 (hm_a1 ko13)
  exact hm_Er (v := q1) hx hb hr (Or.inl ⟨_, rfl⟩) hS hP (⟨⟨u, g, hm_w_n hn_q1 k1, hm_w_n ((hm_kn0 (S := []) (hm_kn hm_krf hn_q1 eM2) k4).resolve_right List.not_mem_nil) k2, fun j hj => by rw [k3 j hj]; exact h4 j hj, h7, by omega⟩, kk14⟩) hlocks (by omega) (by omega) dd_SB_toString_8
set_option maxHeartbeats 4000000 in
set_option maxRecDepth 100000 in
theorem kc_SL_newString (l : Launch) (B : Nat) (D : va_G) (G : Nat → Nat) (M : hm_M) (v : Nat) (f : Nat → Int32) (t : List Nat) (h2 : M v = some (.inl (D.1 100, t.length, .inl f))) (h3 : ∀ j, j < t.length → f j = nI (t.getD j 0)) (h4 : ∀ c ∈ t, c < 128) (h5 : t.length ≤ 100)  (i n : Nat) (hin9 : i + n ≤ t.length) (hfr9 : ¬ (i = 0 ∧ i + n = t.length)) : Met l yy_SL_newString ws_SL_newString ({ frames := 3, cells := 2, slots := 104, locals := 86 }) (hm_Pc B D G M [.ref v, .int (nI i), .int (nI n)]) (hm_Nr B D (fun r M1 => (n = 0 ∧ r = G 4 ∧ M1 = M) ∨ (tx_S D (hm_w M M1) r (tx_sl t i (i + n)) ∧ hm_k M M1 []))) (2) (104) (hm_A B) := by
  refine Met.ofW (cc := cd_SL_newString) (maxL := 3) (ret := ((some (FieldType.object "java/lang/String")))) (by decide) rfl ?_
  intro p e s m args below meth c s₁ B0 hml hv
  obtain ⟨rfl, hE, hP⟩ := hv
  have hx := B0.exec
  have hb := B0.bytes
  have hr := B0.returns
  have hts : ∀ w ∈ tb_G, w.before _ s = true := fun w h => atoms_spec (ws := ws_SL_newString) B0.pre w (List.mem_cons_of_mem _ h)
  have hown : s.vm.findClass "java/lang/StringLatin1" = some m.cls := findClass_of_methodNamed B0.named
  have hlocks := B0.notSynchronized
  have hRf : (headSpec ws_SL_newString { frames := 3, cells := 2, slots := 104, locals := 86 }).room.frames = 3 := rfl
  have hRl : (headSpec ws_SL_newString { frames := 3, cells := 2, slots := 104, locals := 86 }).room.locals = 86 := rfl
  have hRc : (headSpec ws_SL_newString { frames := 3, cells := 2, slots := 104, locals := 86 }).room.cells = 2 := rfl
  have hRs : (headSpec ws_SL_newString { frames := 3, cells := 2, slots := 104, locals := 86 }).room.slots = 104 := rfl
  generalize (headSpec ws_SL_newString { frames := 3, cells := 2, slots := 104, locals := 86 }).room = R at hRf hRl hRc hRs ⊢
  have hS : va_S (hm_A B) s.heap s.heap [] := va_S.rf
  have hl := lv_entry ([.ref v, .int (nI i), .int (nI n)]) (n := 3) (Nat.le_of_ble_eq_true rfl)
  rw [lg_entry_eq]
  generalize (lg_sl ([.ref v, .int (nI i), .int (nI n)]) ++ List.replicate (3 - (lg_sl ([.ref v, .int (nI i), .int (nI n)])).length) Slot.unset).toArray = ls at hl ⊢
  have hl : lv_has ls 3 [(0, .ref v), (1, .int (nI i)), (2, .int (nI n))] := hl
  refine lv_iload_n hx hb dd_SL_newString_0 rfl (lv_at hl 2 rfl) ?_
  refine hn_if_ne (tgt := 7) hx hb (by omega) dd_SL_newString_1 (by decide) (fun c1 => ?_) (fun c1 => ?_)
  · refine hm_new (n := 4) (ci := 8) (fs := [.null, .int (nI 0)]) (C := rn_ST) (T := ft_ST) (N := 2) hx hb hts fi_ST fy_ST fo_ST hown (hts _ tw_658) (hts _ tw_371) (hts _ tw_39) hE.K hP hS rfl (fun j hj => by match j, hj with | 0, _ => rfl | 1, _ => rfl | j + 2, hj => exact absurd hj (by omega)) (by omega) (by omega) dd_SL_newString_7 (fun q2 H hB_q2 hn_q2 hP hS => ?_)
    have hA_q2 : hm_A B q2 := Nat.le_trans hE.2.1 hB_q2
    obtain ⟨M3, eM3⟩ : ∃ z, z = hm_up M q2 (.inr (8, [.null, .int (nI 0)])) := ⟨_, rfl⟩
    rw [← eM3] at hP
    have ne4 : v ≠ q2 := hm_neN h2 hn_q2
    have f5 : M3 v = some (.inl (D.1 100, t.length, .inl f)) := by rw [eM3]; exact hm_up_o ne4 h2
    have f6 : M3 q2 = some (.inr (8, [.null, .int (nI 0)])) := by rw [eM3]; exact hm_up_s
    refine W.widen (k := 1) (n := 4) (by omega) (by omega) ?_
    refine lv_dup hx hb dd_SL_newString_10 rfl ?_
    refine lv_aload_n hx hb dd_SL_newString_11 rfl (lv_at hl 0 rfl) ?_
    refine lv_iload_n hx hb dd_SL_newString_12 rfl (lv_at hl 1 rfl) ?_
    refine lv_iload_n hx hb dd_SL_newString_13 rfl (lv_at hl 1 rfl) ?_
    refine lv_iload_n hx hb dd_SL_newString_14 rfl (lv_at hl 2 rfl) ?_
    refine hn_iadd hx hb dd_SL_newString_15 ?_
    refine hm_cr hS (hm_rS 3 (As := [.ref v, .int (nI i), .int (nI (i + n))]) (rest := [.ref q2, .ref q2]) ⟨hx, hb, hml, hown, hts⟩ hE hS hP (kc_AR_copyOfRange l B D G M3 v t.length f f5 (tx_fix h3 h4) (by omega) i (i + n) (by omega) (by omega) (Or.inr hfr9)) tw_388 tw_659 tw_387 tw_49 (by decide +kernel) rfl rfl ⟨by show 2 + 1 ≤ R.frames; omega, by show 8 + (3 + 11) + 64 ≤ R.locals; omega⟩ rfl hl.1 rfl (Nat.le_of_ble_eq_true rfl) dd_SL_newString_16 ⟨by omega, by omega⟩) (fun r7 M8 H locs hw9 hP hS => ?_)
    refine W.widen (k := 2) (n := 104) (by omega) (by omega) ?_
    obtain ⟨g, k1, k2, eM8, k3, k4⟩ := hw9
    have ne10 : v ≠ r7 := hm_neN f5 k1
    have f11 : M8 v = some (.inl (D.1 100, t.length, .inl f)) := by rw [eM8]; exact hm_up_o ne10 f5
    have ne12 : q2 ≠ r7 := hm_neN f6 k1
    have f13 : M8 q2 = some (.inr (8, [.null, .int (nI 0)])) := by rw [eM8]; exact hm_up_o ne12 f6
    have f14 : M8 r7 = some (.inl (D.1 100, (i + n - i), .inl g)) := by rw [eM8]; exact hm_up_s
    refine lv_iconst (v := nI 0) hx hb dd_SL_newString_19 (by decide +kernel) ?_
    refine hm_cv hS (hm_rI 2 (As := [.ref r7, .int (nI 0)]) (rest := [.ref q2]) ⟨hx, hb, hml, hown, hts⟩ hE hS hP (kc_ST_init2 l B D G M8 q2 f13 hA_q2 r7) tw_662 tw_660 tw_661 tw_39 rfl (by decide +kernel) rfl rfl ⟨by show 1 + 1 ≤ R.frames; omega, by show 8 + (3 + 11) + 12 ≤ R.locals; omega⟩ rfl hl.1 rfl (Nat.le_of_ble_eq_true rfl) dd_SL_newString_20 ⟨by omega, by omega⟩) (fun M16 H locs hw17 hP hS => ?_)
    refine W.widen (k := 2) (n := 104) (by omega) (by omega) ?_
    have eM16 := hw17
    have f18 : M16 v = some (.inl (D.1 100, t.length, .inl f)) := by rw [eM16]; exact hm_up_o ne4 f11
    have f19 : M16 r7 = some (.inl (D.1 100, (i + n - i), .inl g)) := by rw [eM16]; exact hm_up_o (Ne.symm ne12) f14
    have f20 : M16 q2 = some (.inr (8, [.ref r7, .int (nI 0)])) := by rw [eM16]; exact hm_up_s
    have kk21 : hm_k M M [] := hm_krf
    have ko23 := hm_kn0 kk21 hn_q2
    have kk22 : hm_k M M3 [] := hm_kn kk21 hn_q2 eM3
    have ko25 := hm_kn0 kk22 k1
    have kk24 : hm_k M M8 [] := hm_kn kk22 k1 eM8
    have kk26 : hm_k M M16 [] := hm_ku kk24 ko23 eM16
    exact hm_Er (v := q2) hx hb hr (Or.inl ⟨_, rfl⟩) hS hP (Or.inr ⟨⟨r7, g, hm_w_n (ko23.resolve_right List.not_mem_nil) f20, hm_w_n (ko25.resolve_right List.not_mem_nil) (by rw [tx_sl_len hin9]; exact f19), fun j hj => by rw [tx_sl_len hin9] at hj; rw [k4 j hj, h3 _ (by omega), tx_sl_get hin9 (by omega)], tx_sl_lt hin9 h4, by rw [tx_sl_len hin9]; omega⟩, kk26⟩) hlocks (by omega) (by omega) dd_SL_newString_23
  · have c1 := c1
    refine va_ldcS (own := "java/lang/StringLatin1") (tx := "") (index := 151) (q := G 4) hx hb hown (hE.str (q := ("java/lang/StringLatin1", 151, "", 4)) 3 rfl) dd_SL_newString_4 ?_
    exact hm_Er (v := (G 4)) hx hb hr (Or.inl ⟨_, rfl⟩) hS hP (Or.inl ⟨c1, rfl, rfl⟩) hlocks (by omega) (by omega) dd_SL_newString_6
theorem tx_nil {t : List Nat} {i n : Nat} (h : n - i = 0) (hn : n ≤ t.length) : tx_sl t i n = [] := List.length_eq_zero_iff.mp (by rw [tx_sl_len hn]; exact h)
set_option maxHeartbeats 4000000 in
set_option maxRecDepth 100000 in
theorem kc_ST_substring (l : Launch) (B : Nat) (D : va_G) (G : Nat → Nat) (M : hm_M) (a : Nat) (t : List Nat) (ht : tx_S D M a t) (hl9 : t.length ≤ 100) (i n : Nat) (hi : i ≤ n) (hn : n ≤ t.length) : Met l yy_ST_substring ws_ST_substring ({ frames := 4, cells := 2, slots := 104, locals := 108 }) (hm_Pc B D G M [.ref a, .int (nI i), .int (nI n)]) (hm_Nr B D (fun r M1 => (r = a ∧ tx_sl t i n = t ∧ M1 = M) ∨ (tx_sl t i n = [] ∧ r = G 4 ∧ M1 = M) ∨ (tx_S D (hm_w M M1) r (tx_sl t i n) ∧ hm_k M M1 []))) (2) (104) (hm_A B) := by
  refine Met.ofW (cc := cd_ST_substring) (maxL := 5) (ret := ((some (FieldType.object "java/lang/String")))) (by decide) rfl ?_
  intro p e s m args below meth c s₁ B0 hml hv
  obtain ⟨rfl, hE, hP⟩ := hv
  have hx := B0.exec
  have hb := B0.bytes
  have hr := B0.returns
  have hts : ∀ w ∈ tb_G, w.before _ s = true := fun w h => atoms_spec (ws := ws_ST_substring) B0.pre w (List.mem_cons_of_mem _ h)
  have hown : s.vm.findClass "java/lang/String" = some m.cls := findClass_of_methodNamed B0.named
  have hlocks := B0.notSynchronized
  have hRf : (headSpec ws_ST_substring { frames := 4, cells := 2, slots := 104, locals := 108 }).room.frames = 4 := rfl
  have hRl : (headSpec ws_ST_substring { frames := 4, cells := 2, slots := 104, locals := 108 }).room.locals = 108 := rfl
  have hRc : (headSpec ws_ST_substring { frames := 4, cells := 2, slots := 104, locals := 108 }).room.cells = 2 := rfl
  have hRs : (headSpec ws_ST_substring { frames := 4, cells := 2, slots := 104, locals := 108 }).room.slots = 104 := rfl
  generalize (headSpec ws_ST_substring { frames := 4, cells := 2, slots := 104, locals := 108 }).room = R at hRf hRl hRc hRs ⊢
  have hS : va_S (hm_A B) s.heap s.heap [] := va_S.rf
  have hl := lv_entry ([.ref a, .int (nI i), .int (nI n)]) (n := 5) (Nat.le_of_ble_eq_true rfl)
  rw [lg_entry_eq]
  generalize (lg_sl ([.ref a, .int (nI i), .int (nI n)]) ++ List.replicate (5 - (lg_sl ([.ref a, .int (nI i), .int (nI n)])).length) Slot.unset).toArray = ls at hl ⊢
  have hl : lv_has ls 5 [(0, .ref a), (1, .int (nI i)), (2, .int (nI n))] := hl
  obtain ⟨v, f, h1, h2, h3, h4, h5⟩ := id ht
  refine lv_aload_n hx hb dd_ST_substring_0 rfl (lv_at hl 0 rfl) ?_
  refine hm_ci hS (hm_rV 0 (As := []) (rest := []) ⟨hx, hb, hml, hown, hts⟩ hE hS hP (kc_ST_length l B D G M a t ht) rfl h1 tw_490 tw_652 tw_488 tw_489 tw_39 (by decide +kernel) rfl rfl ⟨by show 1 + 1 ≤ R.frames; omega, by show 8 + (1 + 11) + 20 ≤ R.locals; omega⟩ rfl hl.1 rfl (Nat.le_of_ble_eq_true rfl) dd_ST_substring_1 ⟨by omega, by omega⟩) (fun r1 M2 H locs hw3 hP hS => ?_)
  refine W.widen (k := 0) (n := 0) (by omega) (by omega) ?_
  obtain ⟨rfl, eM2⟩ := hw3
  rw [eM2] at hP
  refine lv_istore_n (lv' := [(3, .int (nI t.length)), (0, .ref a), (1, .int (nI i)), (2, .int (nI n))]) hx hb dd_ST_substring_4 rfl hl (by decide) rfl (fun ls hl => ?_)
  refine lv_iload_n hx hb dd_ST_substring_5 rfl (lv_at hl 2 rfl) ?_
  refine lv_iload_n hx hb dd_ST_substring_6 rfl (lv_at hl 3 rfl) ?_
  refine lv_iload_n hx hb dd_ST_substring_7 rfl (lv_at hl 0 rfl) ?_
  refine hm_cv hS (hm_rS 3 (As := [.int (nI i), .int (nI n), .int (nI t.length)]) (rest := []) ⟨hx, hb, hml, hown, hts⟩ hE hS hP (kc_ST_checkBounds l B D G M i n t.length hi hn (by omega)) tw_463 tw_653 tw_462 tw_39 (by decide +kernel) rfl rfl ⟨by show 1 + 1 ≤ R.frames; omega, by show 8 + (3 + 11) + 23 ≤ R.locals; omega⟩ rfl hl.1 rfl (Nat.le_of_ble_eq_true rfl) dd_ST_substring_8 ⟨by omega, by omega⟩) (fun M5 H locs hw6 hP hS => ?_)
  refine W.widen (k := 0) (n := 0) (by omega) (by omega) ?_
  rw [hw6] at hP
  refine lv_iload_n hx hb dd_ST_substring_11 rfl (lv_at hl 2 rfl) ?_
  refine hn_if_ne (tgt := 22) hx hb (by omega) dd_ST_substring_12 (by decide) (fun c7 => ?_) (fun c7 => ?_)
  · refine lv_iload_n hx hb dd_ST_substring_22 rfl (lv_at hl 3 rfl) ?_
    refine lv_iload_n hx hb dd_ST_substring_23 rfl (lv_at hl 2 rfl) ?_
    refine hn_isub hx hb (by omega) dd_ST_substring_24 ?_
    refine lv_istore (lv' := [(4, .int (nI (n - i))), (3, .int (nI t.length)), (0, .ref a), (1, .int (nI i)), (2, .int (nI n))]) hx hb dd_ST_substring_25 hl (by decide) rfl (fun ls hl => ?_)
    refine lv_aload_n hx hb dd_ST_substring_27 rfl (lv_at hl 2 rfl) ?_
    refine hm_ci hS (hm_rV 0 (As := []) (rest := []) ⟨hx, hb, hml, hown, hts⟩ hE hS hP (kc_ST_isLatin1 l B D G M a t ht) rfl h1 tw_623 tw_620 tw_621 tw_622 tw_39 (by decide +kernel) rfl rfl ⟨by show 0 + 1 ≤ R.frames; omega, by show 8 + (1 + 11) + 0 ≤ R.locals; omega⟩ rfl hl.1 rfl (Nat.le_of_ble_eq_true rfl) dd_ST_substring_28 ⟨by omega, by omega⟩) (fun r8 M9 H locs hw10 hP hS => ?_)
    refine W.widen (k := 0) (n := 0) (by omega) (by omega) ?_
    obtain ⟨rfl, eM9⟩ := hw10
    rw [eM9] at hP
    refine hn_if_eq (tgt := 47) hx hb (by omega) dd_ST_substring_31 (by decide) (fun c11 => absurd c11 (by omega)) (fun c11 => ?_)
    refine lv_aload_n hx hb dd_ST_substring_34 rfl (lv_at hl 2 rfl) ?_
    refine hm_get (ci := 8) (C := rn_ST) (T := ft_ST) (N := 2) hx hb hts fi_ST hown hE.K hP h1 rfl 0 (by decide) (hts _ tw_550) (fun _ h9 => h9) rfl dd_ST_substring_35 ?_
    refine lv_iload_n hx hb dd_ST_substring_38 rfl (lv_at hl 3 rfl) ?_
    refine lv_iload hx hb dd_ST_substring_39 (lv_at hl 0 rfl) ?_
    refine hm_cr hS (hm_rS 3 (As := [.ref v, .int (nI i), .int (nI (n - i))]) (rest := []) ⟨hx, hb, hml, hown, hts⟩ hE hS hP (kc_SL_newString l B D G M v f t h2 h3 h4 hl9 i (n - i) (by omega) (by omega)) tw_656 tw_654 tw_655 tw_51 (by decide +kernel) rfl rfl ⟨by show 3 + 1 ≤ R.frames; omega, by show 8 + (3 + 11) + 86 ≤ R.locals; omega⟩ rfl hl.1 rfl (Nat.le_of_ble_eq_true rfl) dd_ST_substring_41 ⟨by omega, by omega⟩) (fun r12 M13 H locs hw14 hP hS => ?_)
    refine W.widen (k := 2) (n := 104) (by omega) (by omega) ?_
    have k9 := hw14
    refine lv_goto (tgt := 57) hx hb dd_ST_substring_44 (by decide) ?_
    exact hm_Er (v := r12) hx hb hr (Or.inl ⟨_, rfl⟩) hS hP (by
        rw [show i + (n - i) = n by omega] at k9
        rcases k9 with ⟨k1, k2, k3⟩ | k9
        · exact Or.inr (Or.inl ⟨tx_nil k1 hn, k2, k3⟩)
        · exact Or.inr (Or.inr k9)) hlocks (by omega) (by omega) dd_ST_substring_57
  · have c1 := c7
    refine lv_iload_n hx hb dd_ST_substring_15 rfl (lv_at hl 3 rfl) ?_
    refine lv_iload_n hx hb dd_ST_substring_16 rfl (lv_at hl 0 rfl) ?_
    refine hn_icmp_ne (tgt := 22) hx hb (by omega) (by omega) dd_ST_substring_17 (by decide) (fun c15 => ?_) (fun c15 => ?_)
    · refine lv_iload_n hx hb dd_ST_substring_22 rfl (lv_at hl 3 rfl) ?_
      refine lv_iload_n hx hb dd_ST_substring_23 rfl (lv_at hl 2 rfl) ?_
      refine hn_isub hx hb (by omega) dd_ST_substring_24 ?_
      refine lv_istore (lv' := [(4, .int (nI (n - i))), (3, .int (nI t.length)), (0, .ref a), (1, .int (nI i)), (2, .int (nI n))]) hx hb dd_ST_substring_25 hl (by decide) rfl (fun ls hl => ?_)
      refine lv_aload_n hx hb dd_ST_substring_27 rfl (lv_at hl 2 rfl) ?_
      refine hm_ci hS (hm_rV 0 (As := []) (rest := []) ⟨hx, hb, hml, hown, hts⟩ hE hS hP (kc_ST_isLatin1 l B D G M a t ht) rfl h1 tw_623 tw_620 tw_621 tw_622 tw_39 (by decide +kernel) rfl rfl ⟨by show 0 + 1 ≤ R.frames; omega, by show 8 + (1 + 11) + 0 ≤ R.locals; omega⟩ rfl hl.1 rfl (Nat.le_of_ble_eq_true rfl) dd_ST_substring_28 ⟨by omega, by omega⟩) (fun r16 M17 H locs hw18 hP hS => ?_)
      refine W.widen (k := 0) (n := 0) (by omega) (by omega) ?_
      obtain ⟨rfl, eM17⟩ := hw18
      rw [eM17] at hP
      refine hn_if_eq (tgt := 47) hx hb (by omega) dd_ST_substring_31 (by decide) (fun c19 => absurd c19 (by omega)) (fun c19 => ?_)
      refine lv_aload_n hx hb dd_ST_substring_34 rfl (lv_at hl 2 rfl) ?_
      refine hm_get (ci := 8) (C := rn_ST) (T := ft_ST) (N := 2) hx hb hts fi_ST hown hE.K hP h1 rfl 0 (by decide) (hts _ tw_550) (fun _ h9 => h9) rfl dd_ST_substring_35 ?_
      refine lv_iload_n hx hb dd_ST_substring_38 rfl (lv_at hl 3 rfl) ?_
      refine lv_iload hx hb dd_ST_substring_39 (lv_at hl 0 rfl) ?_
      refine hm_cr hS (hm_rS 3 (As := [.ref v, .int (nI i), .int (nI (n - i))]) (rest := []) ⟨hx, hb, hml, hown, hts⟩ hE hS hP (kc_SL_newString l B D G M v f t h2 h3 h4 hl9 i (n - i) (by omega) (by omega)) tw_656 tw_654 tw_655 tw_51 (by decide +kernel) rfl rfl ⟨by show 3 + 1 ≤ R.frames; omega, by show 8 + (3 + 11) + 86 ≤ R.locals; omega⟩ rfl hl.1 rfl (Nat.le_of_ble_eq_true rfl) dd_ST_substring_41 ⟨by omega, by omega⟩) (fun r20 M21 H locs hw22 hP hS => ?_)
      refine W.widen (k := 2) (n := 104) (by omega) (by omega) ?_
      have k9 := hw22
      refine lv_goto (tgt := 57) hx hb dd_ST_substring_44 (by decide) ?_
      exact hm_Er (v := r20) hx hb hr (Or.inl ⟨_, rfl⟩) hS hP (by
          rw [show i + (n - i) = n by omega] at k9
          rcases k9 with ⟨k1, k2, k3⟩ | k9
          · exact Or.inr (Or.inl ⟨tx_nil k1 hn, k2, k3⟩)
          · exact Or.inr (Or.inr k9)) hlocks (by omega) (by omega) dd_ST_substring_57
    · have c2 := c15
      refine lv_aload_n hx hb dd_ST_substring_20 rfl (lv_at hl 1 rfl) ?_
      exact hm_Er (v := a) hx hb hr (Or.inl ⟨_, rfl⟩) hS hP (Or.inl ⟨rfl, by rw [c1, c2]; exact tx_sl_all t, rfl⟩) hlocks (by omega) (by omega) dd_ST_substring_21
