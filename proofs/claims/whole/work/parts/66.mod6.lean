/-! the keys over the patterns, as the model reads them -/
/-- where the words of a text begin -/
def sp_I (t : List Nat) (sp : Nat → Nat) (w k : Nat) : Prop := 1 ≤ w ∧ w ≤ k + 1 ∧ sp (w - 1) ≤ k ∧ k ≤ t.length ∧ (∀ j, sp (w - 1) ≤ j → j < k → ¬ t.getD j 0 = 46) ∧ (∀ j, j + 1 < w → sp j < sp (j + 1) ∧ sp (j + 1) ≤ k ∧ (wd_sp 46 t)[j]? = some (tx_sl t (sp j) (sp (j + 1) - 1))) ∧ wd_from 46 t (sp (w - 1)) = (wd_sp 46 t).drop (w - 1)
def sp_F (t : List Nat) (sp : Nat → Nat) (w : Nat) : Prop := (wd_sp 46 t).length = w ∧ w ≤ t.length + 1 ∧ ∀ j, j < w → sp j < sp (j + 1) ∧ sp (j + 1) ≤ t.length + 1 ∧ (wd_sp 46 t)[j]? = some (tx_sl t (sp j) (sp (j + 1) - 1))
theorem sp_0 (t : List Nat) (sp : Nat → Nat) (h : sp 0 = 0) : sp_I t sp 1 0 := ⟨Nat.le_refl _, Nat.le_refl _, by rw [Nat.sub_self, h]; exact Nat.le_refl _, Nat.zero_le _, fun j _ h2 => absurd h2 (Nat.not_lt_zero _), fun j h2 => absurd h2 (by omega), by rw [Nat.sub_self, h, wd_from_0]; rfl⟩
theorem sp_n {t : List Nat} {sp : Nat → Nat} {w k : Nat} (h : sp_I t sp w k) (hk : k < t.length) (hc : ¬ t.getD k 0 = 46) : sp_I t sp w (k + 1) := by
  obtain ⟨h1, h2, h3, h4, h5, h6, h7⟩ := h
  refine ⟨h1, by omega, by omega, by omega, fun j h8 h9 => ?_, fun j hj => ?_, h7⟩
  · by_cases e : j = k
    · rw [e]; exact hc
    · exact h5 j h8 (by omega)
  · obtain ⟨a, b, c⟩ := h6 j hj
    exact ⟨a, by omega, c⟩
theorem va_s {α : Type} {f : Nat → α} {k : Nat} {v : α} : va_up f k v k = v := if_pos rfl
theorem va_o {α : Type} {f : Nat → α} {k j : Nat} {v : α} (h : ¬ j = k) : va_up f k v j = f j := if_neg h
theorem sp_w {t : List Nat} {sp : Nat → Nat} {w k : Nat} (h : sp_I t sp w k) (he : k = t.length ∨ t.getD k 0 = 46) : (wd_sp 46 t)[w - 1]? = some (tx_sl t (sp (w - 1)) k) ∧ wd_from 46 t (k + 1) = (wd_sp 46 t).drop w := by
  obtain ⟨h1, h2, h3, h4, h5, h6, h7⟩ := h
  have e := wd_step h3 h4 h5 he
  rw [h7] at e
  have e2 : w - 1 < (wd_sp 46 t).length := by
    have := congrArg List.length e
    rw [List.length_drop, List.length_cons] at this
    omega
  rw [List.drop_eq_getElem_cons e2] at e
  have e3 := List.cons.inj e
  exact ⟨by rw [List.getElem?_eq_getElem e2, e3.1], by rw [← e3.2, show w - 1 + 1 = w by omega]⟩
theorem sp_d {t : List Nat} {sp : Nat → Nat} {w k : Nat} (h : sp_I t sp w k) (hk : k < t.length) (hc : t.getD k 0 = 46) : sp_I t (va_up sp w (k + 1)) (w + 1) (k + 1) := by
  obtain ⟨hw1, hw2⟩ := sp_w h (Or.inr hc)
  obtain ⟨h1, h2, h3, h4, h5, h6, h7⟩ := h
  rw [sp_I, Nat.add_sub_cancel, va_s]
  refine ⟨by omega, by omega, Nat.le_refl _, by omega, fun j h8 h9 => absurd h9 (by omega), fun j hj => ?_, hw2⟩
  by_cases e : j + 1 = w
  · rw [e, va_s, va_o (by omega)]
    have e2 : j = w - 1 := by omega
    rw [e2]
    exact ⟨by omega, Nat.le_refl _, by rw [hw1, Nat.add_sub_cancel]⟩
  · rw [va_o (by omega), va_o e]
    obtain ⟨a, b, c⟩ := h6 j (by omega)
    exact ⟨a, by omega, c⟩
theorem sp_e {t : List Nat} {sp : Nat → Nat} {w k : Nat} (h : sp_I t sp w k) (hk : k = t.length) : sp_F t (va_up sp w (t.length + 1)) w := by
  obtain ⟨hw1, hw2⟩ := sp_w h (Or.inl hk)
  obtain ⟨h1, h2, h3, h4, h5, h6, h7⟩ := h
  have hl : (wd_sp 46 t).length = w := by
    rw [wd_end _ _ (by omega)] at hw2
    have a := congrArg List.length hw2
    rw [List.length_drop, List.length_nil] at a
    have := (List.getElem?_eq_some_iff.mp hw1).1
    omega
  refine ⟨hl, by omega, fun j hj => ?_⟩
  by_cases e : j + 1 = w
  · rw [e, va_s, va_o (by omega)]
    have e2 : j = w - 1 := by omega
    rw [e2]
    exact ⟨by omega, Nat.le_refl _, by rw [hw1, Nat.add_sub_cancel, hk]⟩
  · rw [va_o (by omega), va_o e]
    obtain ⟨a, b, c⟩ := h6 j (by omega)
    exact ⟨a, by omega, c⟩
theorem fp_up {fp : Nat → Int32} {sp : Nat → Nat} {w v : Nat} (h : ∀ j, j < w → fp j = nI (sp j)) : ∀ j, j < w + 1 → upd fp w (nI v) j = nI (va_up sp w v j) := fun j hj => by
  by_cases e : j = w
  · rw [e, up_s, va_s]
  · rw [up_o e, va_o e]; exact h j (by omega)
/-- a pattern over the words of a key -/
def lk : List (List Nat) → List (List Nat) → Bool
  | [], [] => true
  | [], _ :: _ => false
  | p :: ps, [] => if p = [35] then lk ps [] else false
  | p :: ps, k :: ks => if p = [35] then lk ps (k :: ks) || lk (p :: ps) ks else lk ps ks && (decide (p = [42]) || decide (p = k))
theorem lk_e {pw kw : List (List Nat)} {i j : Nat} (hi : pw.length ≤ i) (hj : j ≤ kw.length) : lk (pw.drop i) (kw.drop j) = decide (j = kw.length) := by
  rw [List.drop_of_length_le hi]
  by_cases e : j = kw.length
  · rw [e, List.drop_length, decide_eq_true rfl, lk]
  · rw [List.drop_eq_getElem_cons (by omega), decide_eq_false e, lk]
theorem lk_h {pw kw : List (List Nat)} {i j : Nat} (hi : pw[i]? = some [35]) (hj : j ≤ kw.length) : lk (pw.drop i) (kw.drop j) = (lk (pw.drop (i + 1)) (kw.drop j) || (decide (j < kw.length) && lk (pw.drop i) (kw.drop (j + 1)))) := by
  obtain ⟨h1, h2⟩ := List.getElem?_eq_some_iff.mp hi
  rw [List.drop_eq_getElem_cons h1, h2]
  by_cases e : j = kw.length
  · rw [e, List.drop_length, decide_eq_false (by omega), lk, if_pos rfl]; simp
  · rw [List.drop_eq_getElem_cons (show j < kw.length by omega), decide_eq_true (show j < kw.length by omega), lk, if_pos rfl, Bool.true_and]
theorem lk_o {pw kw : List (List Nat)} {i j : Nat} {w : List Nat} (hi : pw[i]? = some w) (hw : ¬ w = [35]) (hj : j ≤ kw.length) : lk (pw.drop i) (kw.drop j) = (decide (j < kw.length) && (lk (pw.drop (i + 1)) (kw.drop (j + 1)) && (decide (w = [42]) || decide (w = kw.getD j [])))) := by
  obtain ⟨h1, h2⟩ := List.getElem?_eq_some_iff.mp hi
  rw [List.drop_eq_getElem_cons h1, h2]
  by_cases e : j = kw.length
  · rw [e, List.drop_length, decide_eq_false (by omega), lk, if_neg hw]; simp
  · have hj2 : j < kw.length := by omega
    rw [List.drop_eq_getElem_cons hj2, decide_eq_true hj2, lk, if_neg hw, Bool.true_and, List.getD_eq_getElem?_getD, List.getElem?_eq_getElem hj2]
    rfl
theorem lk_any {ps kw : List (List Nat)} : ∀ (n j : Nat), kw.length - j ≤ n → j ≤ kw.length → (lk ([35] :: ps) (kw.drop j) = true ↔ ∃ k, j ≤ k ∧ k ≤ kw.length ∧ lk ps (kw.drop k) = true)
  | 0, j, hn, hj => by
    have e : j = kw.length := by omega
    rw [e, List.drop_length, lk, if_pos rfl]
    constructor
    · intro h; exact ⟨kw.length, Nat.le_refl _, Nat.le_refl _, by rw [List.drop_length]; exact h⟩
    · rintro ⟨k, h1, h2, h3⟩
      rw [show k = kw.length by omega, List.drop_length] at h3
      exact h3
  | n + 1, j, hn, hj => by
    by_cases e : j = kw.length
    · rw [e, List.drop_length, lk, if_pos rfl]
      constructor
      · intro h; exact ⟨kw.length, Nat.le_refl _, Nat.le_refl _, by rw [List.drop_length]; exact h⟩
      · rintro ⟨k, h1, h2, h3⟩
        rw [show k = kw.length by omega, List.drop_length] at h3
        exact h3
    · have hj2 : j < kw.length := by omega
      have ih := lk_any (ps := ps) (kw := kw) n (j + 1) (by omega) (by omega)
      rw [List.drop_eq_getElem_cons hj2, lk, if_pos rfl, Bool.or_eq_true, ih, ← List.drop_eq_getElem_cons hj2]
      constructor
      · rintro (h | ⟨k, h1, h2, h3⟩)
        · exact ⟨j, Nat.le_refl _, hj, h⟩
        · exact ⟨k, by omega, h2, h3⟩
      · rintro ⟨k, h1, h2, h3⟩
        by_cases e2 : k = j
        · left; rw [← e2]; exact h3
        · right; exact ⟨k, by omega, h2, h3⟩
theorem lk_fin {kw : List (List Nat)} : ∀ (ps : List (List Nat)) (S : Nat → Bool), ps.foldl (dp_st kw) S kw.length = true ↔ ∃ k, k ≤ kw.length ∧ S k = true ∧ lk ps (kw.drop k) = true
  | [], S => by
    show S kw.length = true ↔ _
    constructor
    · intro h; exact ⟨kw.length, Nat.le_refl _, h, by rw [List.drop_length, lk]⟩
    · rintro ⟨k, h1, h2, h3⟩
      by_cases e : k = kw.length
      · rw [← e]; exact h2
      · rw [List.drop_eq_getElem_cons (by omega), lk] at h3; cases h3
  | p :: ps, S => by
    rw [List.foldl_cons, lk_fin ps (dp_st kw S p)]
    by_cases hp : p = [35]
    · subst hp
      rw [dp_st, if_pos rfl]
      constructor
      · rintro ⟨k, h1, h2, h3⟩
        obtain ⟨j, h4, h5⟩ := of_decide_eq_true h2
        exact ⟨j, by omega, h5, (lk_any _ j (Nat.le_refl _) (by omega)).mpr ⟨k, h4, h1, h3⟩⟩
      · rintro ⟨j, h1, h2, h3⟩
        obtain ⟨k, h4, h5, h6⟩ := (lk_any _ j (Nat.le_refl _) (by omega)).mp h3
        exact ⟨k, h5, decide_eq_true ⟨j, h4, h2⟩, h6⟩
    · rw [dp_st, if_neg hp]
      constructor
      · rintro ⟨k, h1, h2, h3⟩
        rw [dp_one, Bool.and_eq_true, Bool.and_eq_true] at h2
        obtain ⟨h4, h5, h6⟩ := h2
        have h4 := of_decide_eq_true h4
        refine ⟨k - 1, by omega, h5, ?_⟩
        have hk : k - 1 < kw.length := by omega
        rw [List.getD_eq_getElem?_getD, List.getElem?_eq_getElem hk] at h6
        rw [List.drop_eq_getElem_cons hk, lk, if_neg hp, show k - 1 + 1 = k by omega, h3, Bool.true_and]
        exact h6
      · rintro ⟨j, h1, h2, h3⟩
        by_cases e : j = kw.length
        · rw [e, List.drop_length, lk, if_neg hp] at h3; cases h3
        · have hj : j < kw.length := by omega
          rw [List.drop_eq_getElem_cons hj, lk, if_neg hp, Bool.and_eq_true] at h3
          refine ⟨j + 1, by omega, ?_, h3.1⟩
          rw [dp_one, decide_eq_true (by omega), Nat.add_sub_cancel, h2, List.getD_eq_getElem?_getD, List.getElem?_eq_getElem hj]
          exact h3.2
theorem lk_tp (t u : List Nat) : tp_like t u = lk (wd_sp 46 t) (wd_sp 46 u) := by
  have h := lk_fin (kw := wd_sp 46 u) (wd_sp 46 t) (fun k => decide (k = 0))
  rw [tp_like, tp_fin]
  cases e : lk (wd_sp 46 t) (wd_sp 46 u) with
  | true => exact h.mpr ⟨0, Nat.zero_le _, rfl, e⟩
  | false =>
    apply Bool.eq_false_iff.mpr
    intro h9
    obtain ⟨k, h1, h2, h3⟩ := h.mp h9
    rw [of_decide_eq_true h2, List.drop_zero, e] at h3
    cases h3
theorem w_one {t : List Nat} {a b c : Nat} (ha : a < b) (hb : b - 1 ≤ t.length) : (tx_sl t a (b - 1) = [c]) ↔ (b - a = 2 ∧ t.getD a 0 = c) := by
  have hl := tx_sl_len (a := a) hb
  constructor
  · intro h
    rw [h] at hl
    have hl : 1 = b - 1 - a := hl
    have e := tx_sl_get (a := a) (j := 0) hb (by omega)
    rw [h] at e
    exact ⟨by omega, e.symm⟩
  · rintro ⟨h1, h2⟩
    rw [tx_sl_hd (by omega) hb, h2, tx_nil (by omega) hb]

theorem bz_vn (u : Bool) : vp_nar .boolean (nI (bz u)) = nI (bz u) := by cases u <;> rfl
set_option maxHeartbeats 4000000 in
set_option maxRecDepth 100000 in
theorem kc_MO_isDirect (l : Launch) (B : Nat) (D : va_G) (G : Nat → Nat) (M : hm_M) (P O : Nat → Nat) (I : Nat → Int32) (A : Nat → Nat → Int32) (L : Nat → Nat → Int64) (hD : mo_D B D P O M I A L) (bs : List bd_T) (hB : bdS (I 6) (A 7) (A 8) (A 9) (A 10) bs) (key : List Nat) (hK : tpS (I 12) (A 11) key) (k9 : Nat) (b : bd_T) (hb1 : bs[k9]? = some b) : Met l yy_MO_isDirect ws_MO_isDirect ({ frames := 0, cells := 0, slots := 0, locals := 0 }) (hm_Pc B D G M [.ref (P 0), .int (nI k9)]) (hm_Ni B D (fun r M1 => r = nI (bz (decide (b.2.2.2 = key))) ∧ M1 = M)) (0) (0) (hm_A B) := by
  refine Met.ofW (cc := cd_MO_isDirect) (maxL := 4) (ret := ((some FieldType.boolean))) (by decide) rfl ?_
  intro p e s m args below meth c s₁ B0 hml hv
  obtain ⟨rfl, hE, hP⟩ := hv
  have hx := B0.exec
  have hb := B0.bytes
  have hr := B0.returns
  have hts : ∀ w ∈ tb_G, w.before _ s = true := fun w h => atoms_spec (ws := ws_MO_isDirect) B0.pre w (List.mem_cons_of_mem _ h)
  have hown : s.vm.findClass "RouteDeskModel" = some m.cls := findClass_of_methodNamed B0.named
  have hlocks := B0.notSynchronized
  have hRf : (headSpec ws_MO_isDirect { frames := 0, cells := 0, slots := 0, locals := 0 }).room.frames = 0 := rfl
  have hRl : (headSpec ws_MO_isDirect { frames := 0, cells := 0, slots := 0, locals := 0 }).room.locals = 0 := rfl
  have hRc : (headSpec ws_MO_isDirect { frames := 0, cells := 0, slots := 0, locals := 0 }).room.cells = 0 := rfl
  have hRs : (headSpec ws_MO_isDirect { frames := 0, cells := 0, slots := 0, locals := 0 }).room.slots = 0 := rfl
  generalize (headSpec ws_MO_isDirect { frames := 0, cells := 0, slots := 0, locals := 0 }).room = R at hRf hRl hRc hRs ⊢
  have hS : va_S (hm_A B) s.heap s.heap [] := va_S.rf
  have hl := lv_entry ([.ref (P 0), .int (nI k9)]) (n := 4) (Nat.le_of_ble_eq_true rfl)
  rw [lg_entry_eq]
  generalize (lg_sl ([.ref (P 0), .int (nI k9)]) ++ List.replicate (4 - (lg_sl ([.ref (P 0), .int (nI k9)])).length) Slot.unset).toArray = ls at hl ⊢
  have hl : lv_has ls 4 [(0, .ref (P 0)), (1, .int (nI k9))] := hl
  have t16 : (nI 16).toInt = 16 := by decide
  have tm1 : (-1 : Int32).toInt = -1 := by decide
  have t0 : (nI 0).toInt = 0 := by decide
  have t2 : (nI 2).toInt = 2 := by decide
  have t3 : (nI 3).toInt = 3 := by decide
  have t1 : (nI 1).toInt = 1 := by decide
  have t4 : (nI 4).toInt = 4 := by decide
  obtain ⟨p0, p1, p3, p4, p5, p7, p8, p9, p10, p11, p14, p15, p16, p17, p19, p20, p21, po, pb⟩ := id hD
  obtain ⟨bi1, bi2, bi3⟩ := id hB
  obtain ⟨ki1, ki2, ki3, ki4⟩ := id hK
  obtain ⟨bf1, bf2, ⟨bt1, bt2, bt3, bt4⟩, bf4, bf5⟩ := bi3 k9 b hb1
  have hk120 := (List.getElem?_eq_some_iff.mp hb1).1
  refine lv_aload_n hx hb dd_MO_isDirect_0 rfl (lv_at hl 0 rfl) ?_
  refine hm_get (ci := 6) (C := rn_MO) (T := ft_MO) (N := 22) hx hb hts fi_MO hown hE.K hP p0 rfl 9 (by decide) (hts _ tw_995) (fun _ h9 => h9) rfl dd_MO_isDirect_1 ?_
  refine lv_iload_n hx hb dd_MO_isDirect_4 rfl (lv_at hl 1 rfl) ?_
  refine hm_iald (j := k9) hx hb hE.K hP 2 p9 rfl (vp_in_nI (by omega) (by omega)) (nI_clamp (by omega)) dd_MO_isDirect_5 ?_
  refine W.eq (g2 := F0 m 6 ls [.int (nI b.2.2.2.length)]) (by rw [bt1]) ?_
  refine lv_aload_n hx hb dd_MO_isDirect_6 rfl (lv_at hl 0 rfl) ?_
  refine hm_get (ci := 6) (C := rn_MO) (T := ft_MO) (N := 22) hx hb hts fi_MO hown hE.K hP p0 rfl 12 (by decide) (hts _ tw_998) (fun _ h9 => h9) rfl dd_MO_isDirect_7 ?_
  refine W.eq (g2 := F0 m 10 ls [.int (nI key.length), .int (nI b.2.2.2.length)]) (by rw [ki1]) ?_
  refine hn_icmp_ne (tgt := 17) hx hb (by omega) (by omega) dd_MO_isDirect_10 (by decide) (fun c1 => ?_) (fun c1 => ?_)
  · have c10 := c1
    refine lv_iconst (v := nI 0) hx hb dd_MO_isDirect_17 (by decide +kernel) ?_
    refine lv_istore_n (lv' := [(2, .int (nI 0)), (0, .ref (P 0)), (1, .int (nI k9))]) hx hb dd_MO_isDirect_18 rfl hl (by decide) rfl (fun ls hl => ?_)
    refine lv_iconst (v := nI 0) hx hb dd_MO_isDirect_19 (by decide +kernel) ?_
    refine lv_istore_n (lv' := [(3, .int (nI 0)), (2, .int (nI 0)), (0, .ref (P 0)), (1, .int (nI k9))]) hx hb dd_MO_isDirect_20 rfl hl (by decide) rfl (fun ls hl => ?_)
    have lp21 : ∀ (n9 : Nat) (i : Nat) (u : Bool), (i ≤ key.length) → (u = true → b.2.2.2.length = key.length ∧ ∀ j, j < i → b.2.2.2.getD j 0 = key.getD j 0) → (u = false → ¬ b.2.2.2 = key) → key.length - i < n9 → ∀ (H : Heap) (locs : List Loc) (ls : Array Slot), hm_P D cl_W M H → va_S (hm_A B) s.heap H locs → lv_has ls 4 [(0, .ref (P 0)), (1, .int (nI k9)), (2, .int (nI (bz u))), (3, .int (nI i))] → W p l e R s m ([.ref (P 0), .int (nI k9)] : List Value).toArray below meth c H locs (0) (0) (MQ below (hm_Ni B D (fun r M1 => r = nI (bz (decide (b.2.2.2 = key))) ∧ M1 = M)) ([.ref (P 0), .int (nI k9)] : List Value).toArray s (0) (0) (hm_A B)) (F0 m 21 ls []) := by
      intro n9
      induction n9 with
      | zero => intro i u hi hu hu2 hm; exact absurd hm (Nat.not_lt_zero _)
      | succ n9 ih21 =>
        intro i u hi hu hu2 hm H locs ls hP hS hl
        refine lv_iload_n hx hb dd_MO_isDirect_21 rfl (lv_at hl 2 rfl) ?_
        refine hn_if_eq (tgt := 65) hx hb (bz_b _) dd_MO_isDirect_22 (by decide) (fun c2 => ?_) (fun c2 => ?_)
        · have hu0 := bz_f c2
          refine lv_iload_n hx hb dd_MO_isDirect_65 rfl (lv_at hl 2 rfl) ?_
          exact hm_Ei (v := nI (bz u)) hx hb hr (bz_n _) hS hP (⟨by rw [hu0, decide_eq_false (hu2 hu0)], rfl⟩) hlocks (by omega) (by omega) dd_MO_isDirect_66
        · have hu1 := bz_t c2
          obtain ⟨hv3, hv4⟩ := hu hu1
          refine lv_iload_n hx hb dd_MO_isDirect_25 rfl (lv_at hl 3 rfl) ?_
          refine lv_aload_n hx hb dd_MO_isDirect_26 rfl (lv_at hl 0 rfl) ?_
          refine hm_get (ci := 6) (C := rn_MO) (T := ft_MO) (N := 22) hx hb hts fi_MO hown hE.K hP p0 rfl 12 (by decide) (hts _ tw_998) (fun _ h9 => h9) rfl dd_MO_isDirect_27 ?_
          refine W.eq (g2 := F0 m 30 ls [.int (nI key.length), .int (nI i)]) (by rw [ki1]) ?_
          refine hn_icmp_ge (tgt := 65) hx hb (by omega) (by omega) dd_MO_isDirect_30 (by decide) (fun c3 => ?_) (fun c3 => ?_)
          · refine lv_iload_n hx hb dd_MO_isDirect_65 rfl (lv_at hl 2 rfl) ?_
            exact hm_Ei (v := nI (bz u)) hx hb hr (bz_n _) hS hP (⟨by rw [hu1, decide_eq_true (tx_ext hv3 (fun j hj => hv4 j (by omega)))], rfl⟩) hlocks (by omega) (by omega) dd_MO_isDirect_66
          · have hbl1 := tx_lt bt4 i
            have hbl2 := tx_lt ki4 i
            refine lv_aload_n hx hb dd_MO_isDirect_33 rfl (lv_at hl 0 rfl) ?_
            refine hm_get (ci := 6) (C := rn_MO) (T := ft_MO) (N := 22) hx hb hts fi_MO hown hE.K hP p0 rfl 10 (by decide) (hts _ tw_996) (fun _ h9 => h9) rfl dd_MO_isDirect_34 ?_
            refine lv_bipush (v := nI 48) hx hb dd_MO_isDirect_37 (by decide +kernel) ?_
            refine lv_iload_n hx hb dd_MO_isDirect_39 rfl (lv_at hl 1 rfl) ?_
            refine hn_imul hx hb dd_MO_isDirect_40 ?_
            refine lv_iload_n hx hb dd_MO_isDirect_41 rfl (lv_at hl 3 rfl) ?_
            refine hn_iadd hx hb dd_MO_isDirect_42 ?_
            refine hm_iald (j := (48 * k9) + i) hx hb hE.K hP 2 p10 rfl (vp_in_nI (by omega) (by omega)) (nI_clamp (by omega)) dd_MO_isDirect_43 ?_
            refine W.eq (g2 := F0 m 44 ls [.int (nI (b.2.2.2.getD i 0))]) (by rw [show A 10 ((48 * k9) + i) = _ from bt2 i (by omega)]) ?_
            refine lv_aload_n hx hb dd_MO_isDirect_44 rfl (lv_at hl 0 rfl) ?_
            refine hm_get (ci := 6) (C := rn_MO) (T := ft_MO) (N := 22) hx hb hts fi_MO hown hE.K hP p0 rfl 11 (by decide) (hts _ tw_997) (fun _ h9 => h9) rfl dd_MO_isDirect_45 ?_
            refine lv_iload_n hx hb dd_MO_isDirect_48 rfl (lv_at hl 3 rfl) ?_
            refine hm_iald (j := i) hx hb hE.K hP 2 p11 rfl (vp_in_nI (by omega) (by omega)) (nI_clamp (by omega)) dd_MO_isDirect_49 ?_
            refine W.eq (g2 := F0 m 50 ls [.int (nI (key.getD i 0)), .int (nI (b.2.2.2.getD i 0))]) (by rw [ki2 i (by omega)]) ?_
            refine hn_icmp_ne (tgt := 57) hx hb (by omega) (by omega) dd_MO_isDirect_50 (by decide) (fun c4 => ?_) (fun c4 => ?_)
            · have he := c4
              refine lv_iconst (v := nI 0) hx hb dd_MO_isDirect_57 (by decide +kernel) ?_
              refine lv_istore_n (lv' := [(2, .int (nI 0)), (0, .ref (P 0)), (1, .int (nI k9)), (3, .int (nI i))]) hx hb dd_MO_isDirect_58 rfl hl (by decide) rfl (fun ls hl => ?_)
              refine lv_iinc (v := nI (i + 1)) (lv' := [(3, .int (nI (i + 1))), (2, .int (nI 0)), (0, .ref (P 0)), (1, .int (nI k9))]) hx hb dd_MO_isDirect_59 hl (k := 3) rfl (nI_1 i) (by decide) rfl (fun ls hl => ?_)
              refine lv_goto (tgt := 21) hx hb dd_MO_isDirect_62 (by decide) ?_
              exact ih21 (i + 1) false (by omega) (fun h9 => by cases h9) (fun _ h9 => he (by rw [h9])) (by omega) _ _ _ hP hS (lv_sub hl [2, 3, 1, 0] rfl)
            · have he := c4
              refine lv_iconst (v := nI 1) hx hb dd_MO_isDirect_53 (by decide +kernel) ?_
              refine lv_goto (tgt := 58) hx hb dd_MO_isDirect_54 (by decide) ?_
              refine lv_istore_n (lv' := [(2, .int (nI 1)), (0, .ref (P 0)), (1, .int (nI k9)), (3, .int (nI i))]) hx hb dd_MO_isDirect_58 rfl hl (by decide) rfl (fun ls hl => ?_)
              refine lv_iinc (v := nI (i + 1)) (lv' := [(3, .int (nI (i + 1))), (2, .int (nI 1)), (0, .ref (P 0)), (1, .int (nI k9))]) hx hb dd_MO_isDirect_59 hl (k := 3) rfl (nI_1 i) (by decide) rfl (fun ls hl => ?_)
              refine lv_goto (tgt := 21) hx hb dd_MO_isDirect_62 (by decide) ?_
              exact ih21 (i + 1) true (by omega) (fun _ => ⟨hv3, fun j hj => by
                  by_cases h9 : j = i
                  · subst h9; exact he
                  · exact hv4 j (by omega)⟩) (fun h9 => by cases h9) (by omega) _ _ _ hP hS (lv_sub hl [2, 3, 1, 0] rfl)
    exact lp21 _ 0 false (Nat.zero_le _) (fun h9 => by cases h9) (fun _ h9 => c10 (by rw [h9])) (Nat.lt_succ_self _) _ _ _ hP hS (lv_sub hl [2, 3, 1, 0] rfl)
  · refine lv_iconst (v := nI 1) hx hb dd_MO_isDirect_13 (by decide +kernel) ?_
    refine lv_goto (tgt := 18) hx hb dd_MO_isDirect_14 (by decide) ?_
    refine lv_istore_n (lv' := [(2, .int (nI 1)), (0, .ref (P 0)), (1, .int (nI k9))]) hx hb dd_MO_isDirect_18 rfl hl (by decide) rfl (fun ls hl => ?_)
    refine lv_iconst (v := nI 0) hx hb dd_MO_isDirect_19 (by decide +kernel) ?_
    refine lv_istore_n (lv' := [(3, .int (nI 0)), (2, .int (nI 1)), (0, .ref (P 0)), (1, .int (nI k9))]) hx hb dd_MO_isDirect_20 rfl hl (by decide) rfl (fun ls hl => ?_)
    have lp21 : ∀ (n9 : Nat) (i : Nat) (u : Bool), (i ≤ key.length) → (u = true → b.2.2.2.length = key.length ∧ ∀ j, j < i → b.2.2.2.getD j 0 = key.getD j 0) → (u = false → ¬ b.2.2.2 = key) → key.length - i < n9 → ∀ (H : Heap) (locs : List Loc) (ls : Array Slot), hm_P D cl_W M H → va_S (hm_A B) s.heap H locs → lv_has ls 4 [(0, .ref (P 0)), (1, .int (nI k9)), (2, .int (nI (bz u))), (3, .int (nI i))] → W p l e R s m ([.ref (P 0), .int (nI k9)] : List Value).toArray below meth c H locs (0) (0) (MQ below (hm_Ni B D (fun r M1 => r = nI (bz (decide (b.2.2.2 = key))) ∧ M1 = M)) ([.ref (P 0), .int (nI k9)] : List Value).toArray s (0) (0) (hm_A B)) (F0 m 21 ls []) := by
      intro n9
      induction n9 with
      | zero => intro i u hi hu hu2 hm; exact absurd hm (Nat.not_lt_zero _)
      | succ n9 ih21 =>
        intro i u hi hu hu2 hm H locs ls hP hS hl
        refine lv_iload_n hx hb dd_MO_isDirect_21 rfl (lv_at hl 2 rfl) ?_
        refine hn_if_eq (tgt := 65) hx hb (bz_b _) dd_MO_isDirect_22 (by decide) (fun c5 => ?_) (fun c5 => ?_)
        · have hu0 := bz_f c5
          refine lv_iload_n hx hb dd_MO_isDirect_65 rfl (lv_at hl 2 rfl) ?_
          exact hm_Ei (v := nI (bz u)) hx hb hr (bz_n _) hS hP (⟨by rw [hu0, decide_eq_false (hu2 hu0)], rfl⟩) hlocks (by omega) (by omega) dd_MO_isDirect_66
        · have hu1 := bz_t c5
          obtain ⟨hv3, hv4⟩ := hu hu1
          refine lv_iload_n hx hb dd_MO_isDirect_25 rfl (lv_at hl 3 rfl) ?_
          refine lv_aload_n hx hb dd_MO_isDirect_26 rfl (lv_at hl 0 rfl) ?_
          refine hm_get (ci := 6) (C := rn_MO) (T := ft_MO) (N := 22) hx hb hts fi_MO hown hE.K hP p0 rfl 12 (by decide) (hts _ tw_998) (fun _ h9 => h9) rfl dd_MO_isDirect_27 ?_
          refine W.eq (g2 := F0 m 30 ls [.int (nI key.length), .int (nI i)]) (by rw [ki1]) ?_
          refine hn_icmp_ge (tgt := 65) hx hb (by omega) (by omega) dd_MO_isDirect_30 (by decide) (fun c6 => ?_) (fun c6 => ?_)
          · refine lv_iload_n hx hb dd_MO_isDirect_65 rfl (lv_at hl 2 rfl) ?_
            exact hm_Ei (v := nI (bz u)) hx hb hr (bz_n _) hS hP (⟨by rw [hu1, decide_eq_true (tx_ext hv3 (fun j hj => hv4 j (by omega)))], rfl⟩) hlocks (by omega) (by omega) dd_MO_isDirect_66
          · have hbl1 := tx_lt bt4 i
            have hbl2 := tx_lt ki4 i
            refine lv_aload_n hx hb dd_MO_isDirect_33 rfl (lv_at hl 0 rfl) ?_
            refine hm_get (ci := 6) (C := rn_MO) (T := ft_MO) (N := 22) hx hb hts fi_MO hown hE.K hP p0 rfl 10 (by decide) (hts _ tw_996) (fun _ h9 => h9) rfl dd_MO_isDirect_34 ?_
            refine lv_bipush (v := nI 48) hx hb dd_MO_isDirect_37 (by decide +kernel) ?_
            refine lv_iload_n hx hb dd_MO_isDirect_39 rfl (lv_at hl 1 rfl) ?_
            refine hn_imul hx hb dd_MO_isDirect_40 ?_
            refine lv_iload_n hx hb dd_MO_isDirect_41 rfl (lv_at hl 3 rfl) ?_
            refine hn_iadd hx hb dd_MO_isDirect_42 ?_
            refine hm_iald (j := (48 * k9) + i) hx hb hE.K hP 2 p10 rfl (vp_in_nI (by omega) (by omega)) (nI_clamp (by omega)) dd_MO_isDirect_43 ?_
            refine W.eq (g2 := F0 m 44 ls [.int (nI (b.2.2.2.getD i 0))]) (by rw [show A 10 ((48 * k9) + i) = _ from bt2 i (by omega)]) ?_
            refine lv_aload_n hx hb dd_MO_isDirect_44 rfl (lv_at hl 0 rfl) ?_
            refine hm_get (ci := 6) (C := rn_MO) (T := ft_MO) (N := 22) hx hb hts fi_MO hown hE.K hP p0 rfl 11 (by decide) (hts _ tw_997) (fun _ h9 => h9) rfl dd_MO_isDirect_45 ?_
            refine lv_iload_n hx hb dd_MO_isDirect_48 rfl (lv_at hl 3 rfl) ?_
            refine hm_iald (j := i) hx hb hE.K hP 2 p11 rfl (vp_in_nI (by omega) (by omega)) (nI_clamp (by omega)) dd_MO_isDirect_49 ?_
            refine W.eq (g2 := F0 m 50 ls [.int (nI (key.getD i 0)), .int (nI (b.2.2.2.getD i 0))]) (by rw [ki2 i (by omega)]) ?_
            refine hn_icmp_ne (tgt := 57) hx hb (by omega) (by omega) dd_MO_isDirect_50 (by decide) (fun c7 => ?_) (fun c7 => ?_)
            · have he := c7
              refine lv_iconst (v := nI 0) hx hb dd_MO_isDirect_57 (by decide +kernel) ?_
              refine lv_istore_n (lv' := [(2, .int (nI 0)), (0, .ref (P 0)), (1, .int (nI k9)), (3, .int (nI i))]) hx hb dd_MO_isDirect_58 rfl hl (by decide) rfl (fun ls hl => ?_)
              refine lv_iinc (v := nI (i + 1)) (lv' := [(3, .int (nI (i + 1))), (2, .int (nI 0)), (0, .ref (P 0)), (1, .int (nI k9))]) hx hb dd_MO_isDirect_59 hl (k := 3) rfl (nI_1 i) (by decide) rfl (fun ls hl => ?_)
              refine lv_goto (tgt := 21) hx hb dd_MO_isDirect_62 (by decide) ?_
              exact ih21 (i + 1) false (by omega) (fun h9 => by cases h9) (fun _ h9 => he (by rw [h9])) (by omega) _ _ _ hP hS (lv_sub hl [2, 3, 1, 0] rfl)
            · have he := c7
              refine lv_iconst (v := nI 1) hx hb dd_MO_isDirect_53 (by decide +kernel) ?_
              refine lv_goto (tgt := 58) hx hb dd_MO_isDirect_54 (by decide) ?_
              refine lv_istore_n (lv' := [(2, .int (nI 1)), (0, .ref (P 0)), (1, .int (nI k9)), (3, .int (nI i))]) hx hb dd_MO_isDirect_58 rfl hl (by decide) rfl (fun ls hl => ?_)
              refine lv_iinc (v := nI (i + 1)) (lv' := [(3, .int (nI (i + 1))), (2, .int (nI 1)), (0, .ref (P 0)), (1, .int (nI k9))]) hx hb dd_MO_isDirect_59 hl (k := 3) rfl (nI_1 i) (by decide) rfl (fun ls hl => ?_)
              refine lv_goto (tgt := 21) hx hb dd_MO_isDirect_62 (by decide) ?_
              exact ih21 (i + 1) true (by omega) (fun _ => ⟨hv3, fun j hj => by
                  by_cases h9 : j = i
                  · subst h9; exact he
                  · exact hv4 j (by omega)⟩) (fun h9 => by cases h9) (by omega) _ _ _ hP hS (lv_sub hl [2, 3, 1, 0] rfl)
    exact lp21 _ 0 true (Nat.zero_le _) (fun _ => ⟨by omega, fun j hj => absurd hj (Nat.not_lt_zero _)⟩) (fun h9 => by cases h9) (Nat.lt_succ_self _) _ _ _ hP hS (lv_sub hl [2, 3, 1, 0] rfl)
set_option maxHeartbeats 4000000 in
set_option maxRecDepth 100000 in
theorem kc_MO_isWord (l : Launch) (B : Nat) (D : va_G) (G : Nat → Nat) (M : hm_M) (P O : Nat → Nat) (I : Nat → Int32) (A : Nat → Nat → Int32) (L : Nat → Nat → Int64) (hD : mo_D B D P O M I A L) (bs : List bd_T) (hB : bdS (I 6) (A 7) (A 8) (A 9) (A 10) bs) (key : List Nat) (hK : tpS (I 12) (A 11) key) (k9 : Nat) (b : bd_T) (hb1 : bs[k9]? = some b) (sp sk : Nat → Nat) (w1 w2 : Nat) (hsp : sp_F b.2.2.2 sp w1) (hsk : sp_F key sk w2) (hfp : ∀ j, j ≤ w1 → A 20 j = nI (sp j)) (hfk : ∀ j, j ≤ w2 → A 21 j = nI (sk j)) (i0 j0 : Nat) (hi0 : i0 < w1) (hj0 : j0 < w2) : Met l yy_MO_isWord ws_MO_isWord ({ frames := 0, cells := 0, slots := 0, locals := 0 }) (hm_Pc B D G M [.ref (P 0), .int (nI k9), .int (nI i0), .int (nI j0)]) (hm_Ni B D (fun r M1 => r = nI (bz (decide ((wd_sp 46 b.2.2.2).getD i0 [] = (wd_sp 46 key).getD j0 []))) ∧ M1 = M)) (0) (0) (hm_A B) := by
  refine Met.ofW (cc := cd_MO_isWord) (maxL := 7) (ret := ((some FieldType.boolean))) (by decide) rfl ?_
  intro p e s m args below meth c s₁ B0 hml hv
  obtain ⟨rfl, hE, hP⟩ := hv
  have hx := B0.exec
  have hb := B0.bytes
  have hr := B0.returns
  have hts : ∀ w ∈ tb_G, w.before _ s = true := fun w h => atoms_spec (ws := ws_MO_isWord) B0.pre w (List.mem_cons_of_mem _ h)
  have hown : s.vm.findClass "RouteDeskModel" = some m.cls := findClass_of_methodNamed B0.named
  have hlocks := B0.notSynchronized
  have hRf : (headSpec ws_MO_isWord { frames := 0, cells := 0, slots := 0, locals := 0 }).room.frames = 0 := rfl
  have hRl : (headSpec ws_MO_isWord { frames := 0, cells := 0, slots := 0, locals := 0 }).room.locals = 0 := rfl
  have hRc : (headSpec ws_MO_isWord { frames := 0, cells := 0, slots := 0, locals := 0 }).room.cells = 0 := rfl
  have hRs : (headSpec ws_MO_isWord { frames := 0, cells := 0, slots := 0, locals := 0 }).room.slots = 0 := rfl
  generalize (headSpec ws_MO_isWord { frames := 0, cells := 0, slots := 0, locals := 0 }).room = R at hRf hRl hRc hRs ⊢
  have hS : va_S (hm_A B) s.heap s.heap [] := va_S.rf
  have hl := lv_entry ([.ref (P 0), .int (nI k9), .int (nI i0), .int (nI j0)]) (n := 7) (Nat.le_of_ble_eq_true rfl)
  rw [lg_entry_eq]
  generalize (lg_sl ([.ref (P 0), .int (nI k9), .int (nI i0), .int (nI j0)]) ++ List.replicate (7 - (lg_sl ([.ref (P 0), .int (nI k9), .int (nI i0), .int (nI j0)])).length) Slot.unset).toArray = ls at hl ⊢
  have hl : lv_has ls 7 [(0, .ref (P 0)), (1, .int (nI k9)), (2, .int (nI i0)), (3, .int (nI j0))] := hl
  have t16 : (nI 16).toInt = 16 := by decide
  have tm1 : (-1 : Int32).toInt = -1 := by decide
  have t0 : (nI 0).toInt = 0 := by decide
  have t2 : (nI 2).toInt = 2 := by decide
  have t3 : (nI 3).toInt = 3 := by decide
  have t1 : (nI 1).toInt = 1 := by decide
  have t4 : (nI 4).toInt = 4 := by decide
  obtain ⟨p0, p1, p3, p4, p5, p7, p8, p9, p10, p11, p14, p15, p16, p17, p19, p20, p21, po, pb⟩ := id hD
  obtain ⟨bi1, bi2, bi3⟩ := id hB
  obtain ⟨ki1, ki2, ki3, ki4⟩ := id hK
  obtain ⟨bf1, bf2, ⟨bt1, bt2, bt3, bt4⟩, bf4, bf5⟩ := bi3 k9 b hb1
  have hk120 := (List.getElem?_eq_some_iff.mp hb1).1
  obtain ⟨w11, w12, w13⟩ := hsp.2.2 i0 hi0
  obtain ⟨w21, w22, w23⟩ := hsk.2.2 j0 hj0
  have hpw : (wd_sp 46 b.2.2.2).getD i0 [] = tx_sl b.2.2.2 (sp i0) (sp (i0 + 1) - 1) := by rw [List.getD_eq_getElem?_getD, w13]; rfl
  have hkw : (wd_sp 46 key).getD j0 [] = tx_sl key (sk j0) (sk (j0 + 1) - 1) := by rw [List.getD_eq_getElem?_getD, w23]; rfl
  have hw1l := hsp.2.1
  have hw2l := hsk.2.1
  refine lv_aload_n hx hb dd_MO_isWord_0 rfl (lv_at hl 0 rfl) ?_
  refine hm_get (ci := 6) (C := rn_MO) (T := ft_MO) (N := 22) hx hb hts fi_MO hown hE.K hP p0 rfl 20 (by decide) (hts _ tw_1006) (fun _ h9 => h9) rfl dd_MO_isWord_1 ?_
  refine lv_iload_n hx hb dd_MO_isWord_4 rfl (lv_at hl 2 rfl) ?_
  refine lv_iconst (v := nI 1) hx hb dd_MO_isWord_5 (by decide +kernel) ?_
  refine hn_iadd hx hb dd_MO_isWord_6 ?_
  refine hm_iald (j := i0 + 1) hx hb hE.K hP 2 p20 rfl (vp_in_nI (by omega) (by omega)) (nI_clamp (by omega)) dd_MO_isWord_7 ?_
  refine W.eq (g2 := F0 m 8 ls [.int (nI (sp (i0 + 1)))]) (by rw [hfp (i0 + 1) (by omega)]) ?_
  refine lv_aload_n hx hb dd_MO_isWord_8 rfl (lv_at hl 0 rfl) ?_
  refine hm_get (ci := 6) (C := rn_MO) (T := ft_MO) (N := 22) hx hb hts fi_MO hown hE.K hP p0 rfl 20 (by decide) (hts _ tw_1006) (fun _ h9 => h9) rfl dd_MO_isWord_9 ?_
  refine lv_iload_n hx hb dd_MO_isWord_12 rfl (lv_at hl 2 rfl) ?_
  refine hm_iald (j := i0) hx hb hE.K hP 2 p20 rfl (vp_in_nI (by omega) (by omega)) (nI_clamp (by omega)) dd_MO_isWord_13 ?_
  refine W.eq (g2 := F0 m 14 ls [.int (nI (sp i0)), .int (nI (sp (i0 + 1)))]) (by rw [hfp i0 (by omega)]) ?_
  refine hn_isub hx hb (by omega) dd_MO_isWord_14 ?_
  refine lv_iconst (v := nI 1) hx hb dd_MO_isWord_15 (by decide +kernel) ?_
  refine hn_isub hx hb (by omega) dd_MO_isWord_16 ?_
  refine lv_istore (lv' := [(4, .int (nI (((sp (i0 + 1)) - (sp i0)) - 1))), (0, .ref (P 0)), (1, .int (nI k9)), (2, .int (nI i0)), (3, .int (nI j0))]) hx hb dd_MO_isWord_17 hl (by decide) rfl (fun ls hl => ?_)
  refine lv_aload_n hx hb dd_MO_isWord_19 rfl (lv_at hl 1 rfl) ?_
  refine hm_get (ci := 6) (C := rn_MO) (T := ft_MO) (N := 22) hx hb hts fi_MO hown hE.K hP p0 rfl 21 (by decide) (hts _ tw_1007) (fun _ h9 => h9) rfl dd_MO_isWord_20 ?_
  refine lv_iload_n hx hb dd_MO_isWord_23 rfl (lv_at hl 4 rfl) ?_
  refine lv_iconst (v := nI 1) hx hb dd_MO_isWord_24 (by decide +kernel) ?_
  refine hn_iadd hx hb dd_MO_isWord_25 ?_
  refine hm_iald (j := j0 + 1) hx hb hE.K hP 2 p21 rfl (vp_in_nI (by omega) (by omega)) (nI_clamp (by omega)) dd_MO_isWord_26 ?_
  refine W.eq (g2 := F0 m 27 ls [.int (nI (sk (j0 + 1)))]) (by rw [hfk (j0 + 1) (by omega)]) ?_
  refine lv_aload_n hx hb dd_MO_isWord_27 rfl (lv_at hl 1 rfl) ?_
  refine hm_get (ci := 6) (C := rn_MO) (T := ft_MO) (N := 22) hx hb hts fi_MO hown hE.K hP p0 rfl 21 (by decide) (hts _ tw_1007) (fun _ h9 => h9) rfl dd_MO_isWord_28 ?_
  refine lv_iload_n hx hb dd_MO_isWord_31 rfl (lv_at hl 4 rfl) ?_
  refine hm_iald (j := j0) hx hb hE.K hP 2 p21 rfl (vp_in_nI (by omega) (by omega)) (nI_clamp (by omega)) dd_MO_isWord_32 ?_
  refine W.eq (g2 := F0 m 33 ls [.int (nI (sk j0)), .int (nI (sk (j0 + 1)))]) (by rw [hfk j0 (by omega)]) ?_
  refine hn_isub hx hb (by omega) dd_MO_isWord_33 ?_
  refine lv_iconst (v := nI 1) hx hb dd_MO_isWord_34 (by decide +kernel) ?_
  refine hn_isub hx hb (by omega) dd_MO_isWord_35 ?_
  refine lv_iload hx hb dd_MO_isWord_36 (lv_at hl 0 rfl) ?_
  refine hn_icmp_ne (tgt := 45) hx hb (by omega) (by omega) dd_MO_isWord_38 (by decide) (fun c1 => ?_) (fun c1 => ?_)
  · have c38 := c1
    refine lv_iconst (v := nI 0) hx hb dd_MO_isWord_45 (by decide +kernel) ?_
    refine lv_istore (lv' := [(5, .int (nI 0)), (4, .int (nI (((sp (i0 + 1)) - (sp i0)) - 1))), (0, .ref (P 0)), (1, .int (nI k9)), (2, .int (nI i0)), (3, .int (nI j0))]) hx hb dd_MO_isWord_46 hl (by decide) rfl (fun ls hl => ?_)
    refine lv_iconst (v := nI 0) hx hb dd_MO_isWord_48 (by decide +kernel) ?_
    refine lv_istore (lv' := [(6, .int (nI 0)), (5, .int (nI 0)), (4, .int (nI (((sp (i0 + 1)) - (sp i0)) - 1))), (0, .ref (P 0)), (1, .int (nI k9)), (2, .int (nI i0)), (3, .int (nI j0))]) hx hb dd_MO_isWord_49 hl (by decide) rfl (fun ls hl => ?_)
    have lp51 : ∀ (n9 : Nat) (i : Nat) (u : Bool), (i ≤ ((sp (i0 + 1)) - (sp i0)) - 1) → (u = true → ((sp (i0 + 1)) - (sp i0)) - 1 = ((sk (j0 + 1)) - (sk j0)) - 1 ∧ ∀ j, j < i → b.2.2.2.getD (sp i0 + j) 0 = key.getD (sk j0 + j) 0) → (u = false → ¬ tx_sl b.2.2.2 (sp i0) (sp (i0 + 1) - 1) = tx_sl key (sk j0) (sk (j0 + 1) - 1)) → ((sp (i0 + 1)) - (sp i0)) - 1 - i < n9 → ∀ (H : Heap) (locs : List Loc) (ls : Array Slot), hm_P D cl_W M H → va_S (hm_A B) s.heap H locs → lv_has ls 7 [(0, .ref (P 0)), (1, .int (nI k9)), (2, .int (nI i0)), (3, .int (nI j0)), (4, .int (nI (((sp (i0 + 1)) - (sp i0)) - 1))), (5, .int (nI (bz u))), (6, .int (nI i))] → W p l e R s m ([.ref (P 0), .int (nI k9), .int (nI i0), .int (nI j0)] : List Value).toArray below meth c H locs (0) (0) (MQ below (hm_Ni B D (fun r M1 => r = nI (bz (decide ((wd_sp 46 b.2.2.2).getD i0 [] = (wd_sp 46 key).getD j0 []))) ∧ M1 = M)) ([.ref (P 0), .int (nI k9), .int (nI i0), .int (nI j0)] : List Value).toArray s (0) (0) (hm_A B)) (F0 m 51 ls []) := by
      intro n9
      induction n9 with
      | zero => intro i u hi hu hu2 hm; exact absurd hm (Nat.not_lt_zero _)
      | succ n9 ih51 =>
        intro i u hi hu hu2 hm H locs ls hP hS hl
        refine lv_iload hx hb dd_MO_isWord_51 (lv_at hl 5 rfl) ?_
        refine hn_if_eq (tgt := 112) hx hb (bz_b _) dd_MO_isWord_53 (by decide) (fun c2 => ?_) (fun c2 => ?_)
        · have hu0 := bz_f c2
          refine lv_iload hx hb dd_MO_isWord_112 (lv_at hl 5 rfl) ?_
          exact hm_Ei (v := nI (bz u)) hx hb hr (bz_n _) hS hP (⟨by rw [hu0, hpw, hkw, decide_eq_false (hu2 hu0)], rfl⟩) hlocks (by omega) (by omega) dd_MO_isWord_114
        · have hu1 := bz_t c2
          obtain ⟨hv3, hv4⟩ := hu hu1
          refine lv_iload hx hb dd_MO_isWord_56 (lv_at hl 6 rfl) ?_
          refine lv_iload hx hb dd_MO_isWord_58 (lv_at hl 4 rfl) ?_
          refine hn_icmp_ge (tgt := 112) hx hb (by omega) (by omega) dd_MO_isWord_60 (by decide) (fun c3 => ?_) (fun c3 => ?_)
          · refine lv_iload hx hb dd_MO_isWord_112 (lv_at hl 5 rfl) ?_
            exact hm_Ei (v := nI (bz u)) hx hb hr (bz_n _) hS hP (⟨by rw [hu1, hpw, hkw, decide_eq_true (tx_sl_eq (by omega) (by omega) (by omega) (by omega) (by omega) (fun j hj => hv4 j (by omega)))], rfl⟩) hlocks (by omega) (by omega) dd_MO_isWord_114
          · have hbl1 := tx_lt bt4 (sp i0 + i)
            have hbl2 := tx_lt ki4 (sk j0 + i)
            refine lv_aload_n hx hb dd_MO_isWord_63 rfl (lv_at hl 0 rfl) ?_
            refine hm_get (ci := 6) (C := rn_MO) (T := ft_MO) (N := 22) hx hb hts fi_MO hown hE.K hP p0 rfl 10 (by decide) (hts _ tw_996) (fun _ h9 => h9) rfl dd_MO_isWord_64 ?_
            refine lv_bipush (v := nI 48) hx hb dd_MO_isWord_67 (by decide +kernel) ?_
            refine lv_iload_n hx hb dd_MO_isWord_69 rfl (lv_at hl 1 rfl) ?_
            refine hn_imul hx hb dd_MO_isWord_70 ?_
            refine lv_aload_n hx hb dd_MO_isWord_71 rfl (lv_at hl 0 rfl) ?_
            refine hm_get (ci := 6) (C := rn_MO) (T := ft_MO) (N := 22) hx hb hts fi_MO hown hE.K hP p0 rfl 20 (by decide) (hts _ tw_1006) (fun _ h9 => h9) rfl dd_MO_isWord_72 ?_
            refine lv_iload_n hx hb dd_MO_isWord_75 rfl (lv_at hl 2 rfl) ?_
            refine hm_iald (j := i0) hx hb hE.K hP 2 p20 rfl (vp_in_nI (by omega) (by omega)) (nI_clamp (by omega)) dd_MO_isWord_76 ?_
            refine W.eq (g2 := F0 m 77 ls [.int (nI (sp i0)), .int (nI (48 * k9)), .ref (P 10)]) (by rw [hfp i0 (by omega)]) ?_
            refine hn_iadd hx hb dd_MO_isWord_77 ?_
            refine lv_iload hx hb dd_MO_isWord_78 (lv_at hl 6 rfl) ?_
            refine hn_iadd hx hb dd_MO_isWord_80 ?_
            refine hm_iald (j := ((48 * k9) + (sp i0)) + i) hx hb hE.K hP 2 p10 rfl (vp_in_nI (by omega) (by omega)) (nI_clamp (by omega)) dd_MO_isWord_81 ?_
            refine W.eq (g2 := F0 m 82 ls [.int (nI (b.2.2.2.getD (sp i0 + i) 0))]) (by rw [show A 10 (((48 * k9) + (sp i0)) + i) = _ from (congrArg (A 10) (Nat.add_assoc _ _ _)).trans (bt2 (sp i0 + i) (by omega))]) ?_
            refine lv_aload_n hx hb dd_MO_isWord_82 rfl (lv_at hl 0 rfl) ?_
            refine hm_get (ci := 6) (C := rn_MO) (T := ft_MO) (N := 22) hx hb hts fi_MO hown hE.K hP p0 rfl 11 (by decide) (hts _ tw_997) (fun _ h9 => h9) rfl dd_MO_isWord_83 ?_
            refine lv_aload_n hx hb dd_MO_isWord_86 rfl (lv_at hl 0 rfl) ?_
            refine hm_get (ci := 6) (C := rn_MO) (T := ft_MO) (N := 22) hx hb hts fi_MO hown hE.K hP p0 rfl 21 (by decide) (hts _ tw_1007) (fun _ h9 => h9) rfl dd_MO_isWord_87 ?_
            refine lv_iload_n hx hb dd_MO_isWord_90 rfl (lv_at hl 3 rfl) ?_
            refine hm_iald (j := j0) hx hb hE.K hP 2 p21 rfl (vp_in_nI (by omega) (by omega)) (nI_clamp (by omega)) dd_MO_isWord_91 ?_
            refine W.eq (g2 := F0 m 92 ls [.int (nI (sk j0)), .ref (P 11), .int (nI (b.2.2.2.getD (sp i0 + i) 0))]) (by rw [hfk j0 (by omega)]) ?_
            refine lv_iload hx hb dd_MO_isWord_92 (lv_at hl 6 rfl) ?_
            refine hn_iadd hx hb dd_MO_isWord_94 ?_
            refine hm_iald (j := (sk j0) + i) hx hb hE.K hP 2 p11 rfl (vp_in_nI (by omega) (by omega)) (nI_clamp (by omega)) dd_MO_isWord_95 ?_
            refine W.eq (g2 := F0 m 96 ls [.int (nI (key.getD ((sk j0) + i) 0)), .int (nI (b.2.2.2.getD (sp i0 + i) 0))]) (by rw [ki2 ((sk j0) + i) (by omega)]) ?_
            refine hn_icmp_ne (tgt := 103) hx hb (by omega) (by omega) dd_MO_isWord_96 (by decide) (fun c4 => ?_) (fun c4 => ?_)
            · have he := c4
              refine lv_iconst (v := nI 0) hx hb dd_MO_isWord_103 (by decide +kernel) ?_
              refine lv_istore (lv' := [(5, .int (nI 0)), (0, .ref (P 0)), (1, .int (nI k9)), (2, .int (nI i0)), (3, .int (nI j0)), (4, .int (nI (((sp (i0 + 1)) - (sp i0)) - 1))), (6, .int (nI i))]) hx hb dd_MO_isWord_104 hl (by decide) rfl (fun ls hl => ?_)
              refine lv_iinc (v := nI (i + 1)) (lv' := [(6, .int (nI (i + 1))), (5, .int (nI 0)), (0, .ref (P 0)), (1, .int (nI k9)), (2, .int (nI i0)), (3, .int (nI j0)), (4, .int (nI (((sp (i0 + 1)) - (sp i0)) - 1)))]) hx hb dd_MO_isWord_106 hl (k := 6) rfl (nI_1 i) (by decide) rfl (fun ls hl => ?_)
              refine lv_goto (tgt := 51) hx hb dd_MO_isWord_109 (by decide) ?_
              exact ih51 (i + 1) false (by omega) (fun h9 => by cases h9) (fun _ => tx_sl_ne (j := i) (by omega) (by omega) (by omega) (by omega) he) (by omega) _ _ _ hP hS (lv_sub hl [2, 3, 4, 5, 6, 1, 0] rfl)
            · have he := c4
              refine lv_iconst (v := nI 1) hx hb dd_MO_isWord_99 (by decide +kernel) ?_
              refine lv_goto (tgt := 104) hx hb dd_MO_isWord_100 (by decide) ?_
              refine lv_istore (lv' := [(5, .int (nI 1)), (0, .ref (P 0)), (1, .int (nI k9)), (2, .int (nI i0)), (3, .int (nI j0)), (4, .int (nI (((sp (i0 + 1)) - (sp i0)) - 1))), (6, .int (nI i))]) hx hb dd_MO_isWord_104 hl (by decide) rfl (fun ls hl => ?_)
              refine lv_iinc (v := nI (i + 1)) (lv' := [(6, .int (nI (i + 1))), (5, .int (nI 1)), (0, .ref (P 0)), (1, .int (nI k9)), (2, .int (nI i0)), (3, .int (nI j0)), (4, .int (nI (((sp (i0 + 1)) - (sp i0)) - 1)))]) hx hb dd_MO_isWord_106 hl (k := 6) rfl (nI_1 i) (by decide) rfl (fun ls hl => ?_)
              refine lv_goto (tgt := 51) hx hb dd_MO_isWord_109 (by decide) ?_
              exact ih51 (i + 1) true (by omega) (fun _ => ⟨hv3, fun j hj => by
                  by_cases h9 : j = i
                  · subst h9; exact he
                  · exact hv4 j (by omega)⟩) (fun h9 => by cases h9) (by omega) _ _ _ hP hS (lv_sub hl [2, 3, 4, 5, 6, 1, 0] rfl)
    exact lp51 _ 0 false (Nat.zero_le _) (fun h9 => by cases h9) (fun _ h9 => c38 (by have := congrArg List.length h9; rw [tx_sl_len (by omega), tx_sl_len (by omega)] at this; omega)) (Nat.lt_succ_self _) _ _ _ hP hS (lv_sub hl [3, 4, 5, 6, 2, 1, 0] rfl)
  · refine lv_iconst (v := nI 1) hx hb dd_MO_isWord_41 (by decide +kernel) ?_
    refine lv_goto (tgt := 46) hx hb dd_MO_isWord_42 (by decide) ?_
    refine lv_istore (lv' := [(5, .int (nI 1)), (4, .int (nI (((sp (i0 + 1)) - (sp i0)) - 1))), (0, .ref (P 0)), (1, .int (nI k9)), (2, .int (nI i0)), (3, .int (nI j0))]) hx hb dd_MO_isWord_46 hl (by decide) rfl (fun ls hl => ?_)
    refine lv_iconst (v := nI 0) hx hb dd_MO_isWord_48 (by decide +kernel) ?_
    refine lv_istore (lv' := [(6, .int (nI 0)), (5, .int (nI 1)), (4, .int (nI (((sp (i0 + 1)) - (sp i0)) - 1))), (0, .ref (P 0)), (1, .int (nI k9)), (2, .int (nI i0)), (3, .int (nI j0))]) hx hb dd_MO_isWord_49 hl (by decide) rfl (fun ls hl => ?_)
    have lp51 : ∀ (n9 : Nat) (i : Nat) (u : Bool), (i ≤ ((sp (i0 + 1)) - (sp i0)) - 1) → (u = true → ((sp (i0 + 1)) - (sp i0)) - 1 = ((sk (j0 + 1)) - (sk j0)) - 1 ∧ ∀ j, j < i → b.2.2.2.getD (sp i0 + j) 0 = key.getD (sk j0 + j) 0) → (u = false → ¬ tx_sl b.2.2.2 (sp i0) (sp (i0 + 1) - 1) = tx_sl key (sk j0) (sk (j0 + 1) - 1)) → ((sp (i0 + 1)) - (sp i0)) - 1 - i < n9 → ∀ (H : Heap) (locs : List Loc) (ls : Array Slot), hm_P D cl_W M H → va_S (hm_A B) s.heap H locs → lv_has ls 7 [(0, .ref (P 0)), (1, .int (nI k9)), (2, .int (nI i0)), (3, .int (nI j0)), (4, .int (nI (((sp (i0 + 1)) - (sp i0)) - 1))), (5, .int (nI (bz u))), (6, .int (nI i))] → W p l e R s m ([.ref (P 0), .int (nI k9), .int (nI i0), .int (nI j0)] : List Value).toArray below meth c H locs (0) (0) (MQ below (hm_Ni B D (fun r M1 => r = nI (bz (decide ((wd_sp 46 b.2.2.2).getD i0 [] = (wd_sp 46 key).getD j0 []))) ∧ M1 = M)) ([.ref (P 0), .int (nI k9), .int (nI i0), .int (nI j0)] : List Value).toArray s (0) (0) (hm_A B)) (F0 m 51 ls []) := by
      intro n9
      induction n9 with
      | zero => intro i u hi hu hu2 hm; exact absurd hm (Nat.not_lt_zero _)
      | succ n9 ih51 =>
        intro i u hi hu hu2 hm H locs ls hP hS hl
        refine lv_iload hx hb dd_MO_isWord_51 (lv_at hl 5 rfl) ?_
        refine hn_if_eq (tgt := 112) hx hb (bz_b _) dd_MO_isWord_53 (by decide) (fun c5 => ?_) (fun c5 => ?_)
        · have hu0 := bz_f c5
          refine lv_iload hx hb dd_MO_isWord_112 (lv_at hl 5 rfl) ?_
          exact hm_Ei (v := nI (bz u)) hx hb hr (bz_n _) hS hP (⟨by rw [hu0, hpw, hkw, decide_eq_false (hu2 hu0)], rfl⟩) hlocks (by omega) (by omega) dd_MO_isWord_114
        · have hu1 := bz_t c5
          obtain ⟨hv3, hv4⟩ := hu hu1
          refine lv_iload hx hb dd_MO_isWord_56 (lv_at hl 6 rfl) ?_
          refine lv_iload hx hb dd_MO_isWord_58 (lv_at hl 4 rfl) ?_
          refine hn_icmp_ge (tgt := 112) hx hb (by omega) (by omega) dd_MO_isWord_60 (by decide) (fun c6 => ?_) (fun c6 => ?_)
          · refine lv_iload hx hb dd_MO_isWord_112 (lv_at hl 5 rfl) ?_
            exact hm_Ei (v := nI (bz u)) hx hb hr (bz_n _) hS hP (⟨by rw [hu1, hpw, hkw, decide_eq_true (tx_sl_eq (by omega) (by omega) (by omega) (by omega) (by omega) (fun j hj => hv4 j (by omega)))], rfl⟩) hlocks (by omega) (by omega) dd_MO_isWord_114
          · have hbl1 := tx_lt bt4 (sp i0 + i)
            have hbl2 := tx_lt ki4 (sk j0 + i)
            refine lv_aload_n hx hb dd_MO_isWord_63 rfl (lv_at hl 0 rfl) ?_
            refine hm_get (ci := 6) (C := rn_MO) (T := ft_MO) (N := 22) hx hb hts fi_MO hown hE.K hP p0 rfl 10 (by decide) (hts _ tw_996) (fun _ h9 => h9) rfl dd_MO_isWord_64 ?_
            refine lv_bipush (v := nI 48) hx hb dd_MO_isWord_67 (by decide +kernel) ?_
            refine lv_iload_n hx hb dd_MO_isWord_69 rfl (lv_at hl 1 rfl) ?_
            refine hn_imul hx hb dd_MO_isWord_70 ?_
            refine lv_aload_n hx hb dd_MO_isWord_71 rfl (lv_at hl 0 rfl) ?_
            refine hm_get (ci := 6) (C := rn_MO) (T := ft_MO) (N := 22) hx hb hts fi_MO hown hE.K hP p0 rfl 20 (by decide) (hts _ tw_1006) (fun _ h9 => h9) rfl dd_MO_isWord_72 ?_
            refine lv_iload_n hx hb dd_MO_isWord_75 rfl (lv_at hl 2 rfl) ?_
            refine hm_iald (j := i0) hx hb hE.K hP 2 p20 rfl (vp_in_nI (by omega) (by omega)) (nI_clamp (by omega)) dd_MO_isWord_76 ?_
            refine W.eq (g2 := F0 m 77 ls [.int (nI (sp i0)), .int (nI (48 * k9)), .ref (P 10)]) (by rw [hfp i0 (by omega)]) ?_
            refine hn_iadd hx hb dd_MO_isWord_77 ?_
            refine lv_iload hx hb dd_MO_isWord_78 (lv_at hl 6 rfl) ?_
            refine hn_iadd hx hb dd_MO_isWord_80 ?_
            refine hm_iald (j := ((48 * k9) + (sp i0)) + i) hx hb hE.K hP 2 p10 rfl (vp_in_nI (by omega) (by omega)) (nI_clamp (by omega)) dd_MO_isWord_81 ?_
            refine W.eq (g2 := F0 m 82 ls [.int (nI (b.2.2.2.getD (sp i0 + i) 0))]) (by rw [show A 10 (((48 * k9) + (sp i0)) + i) = _ from (congrArg (A 10) (Nat.add_assoc _ _ _)).trans (bt2 (sp i0 + i) (by omega))]) ?_
            refine lv_aload_n hx hb dd_MO_isWord_82 rfl (lv_at hl 0 rfl) ?_
            refine hm_get (ci := 6) (C := rn_MO) (T := ft_MO) (N := 22) hx hb hts fi_MO hown hE.K hP p0 rfl 11 (by decide) (hts _ tw_997) (fun _ h9 => h9) rfl dd_MO_isWord_83 ?_
            refine lv_aload_n hx hb dd_MO_isWord_86 rfl (lv_at hl 0 rfl) ?_
            refine hm_get (ci := 6) (C := rn_MO) (T := ft_MO) (N := 22) hx hb hts fi_MO hown hE.K hP p0 rfl 21 (by decide) (hts _ tw_1007) (fun _ h9 => h9) rfl dd_MO_isWord_87 ?_
            refine lv_iload_n hx hb dd_MO_isWord_90 rfl (lv_at hl 3 rfl) ?_
            refine hm_iald (j := j0) hx hb hE.K hP 2 p21 rfl (vp_in_nI (by omega) (by omega)) (nI_clamp (by omega)) dd_MO_isWord_91 ?_
            refine W.eq (g2 := F0 m 92 ls [.int (nI (sk j0)), .ref (P 11), .int (nI (b.2.2.2.getD (sp i0 + i) 0))]) (by rw [hfk j0 (by omega)]) ?_
            refine lv_iload hx hb dd_MO_isWord_92 (lv_at hl 6 rfl) ?_
            refine hn_iadd hx hb dd_MO_isWord_94 ?_
            refine hm_iald (j := (sk j0) + i) hx hb hE.K hP 2 p11 rfl (vp_in_nI (by omega) (by omega)) (nI_clamp (by omega)) dd_MO_isWord_95 ?_
            refine W.eq (g2 := F0 m 96 ls [.int (nI (key.getD ((sk j0) + i) 0)), .int (nI (b.2.2.2.getD (sp i0 + i) 0))]) (by rw [ki2 ((sk j0) + i) (by omega)]) ?_
            refine hn_icmp_ne (tgt := 103) hx hb (by omega) (by omega) dd_MO_isWord_96 (by decide) (fun c7 => ?_) (fun c7 => ?_)
            · have he := c7
              refine lv_iconst (v := nI 0) hx hb dd_MO_isWord_103 (by decide +kernel) ?_
              refine lv_istore (lv' := [(5, .int (nI 0)), (0, .ref (P 0)), (1, .int (nI k9)), (2, .int (nI i0)), (3, .int (nI j0)), (4, .int (nI (((sp (i0 + 1)) - (sp i0)) - 1))), (6, .int (nI i))]) hx hb dd_MO_isWord_104 hl (by decide) rfl (fun ls hl => ?_)
              refine lv_iinc (v := nI (i + 1)) (lv' := [(6, .int (nI (i + 1))), (5, .int (nI 0)), (0, .ref (P 0)), (1, .int (nI k9)), (2, .int (nI i0)), (3, .int (nI j0)), (4, .int (nI (((sp (i0 + 1)) - (sp i0)) - 1)))]) hx hb dd_MO_isWord_106 hl (k := 6) rfl (nI_1 i) (by decide) rfl (fun ls hl => ?_)
              refine lv_goto (tgt := 51) hx hb dd_MO_isWord_109 (by decide) ?_
              exact ih51 (i + 1) false (by omega) (fun h9 => by cases h9) (fun _ => tx_sl_ne (j := i) (by omega) (by omega) (by omega) (by omega) he) (by omega) _ _ _ hP hS (lv_sub hl [2, 3, 4, 5, 6, 1, 0] rfl)
            · have he := c7
              refine lv_iconst (v := nI 1) hx hb dd_MO_isWord_99 (by decide +kernel) ?_
              refine lv_goto (tgt := 104) hx hb dd_MO_isWord_100 (by decide) ?_
              refine lv_istore (lv' := [(5, .int (nI 1)), (0, .ref (P 0)), (1, .int (nI k9)), (2, .int (nI i0)), (3, .int (nI j0)), (4, .int (nI (((sp (i0 + 1)) - (sp i0)) - 1))), (6, .int (nI i))]) hx hb dd_MO_isWord_104 hl (by decide) rfl (fun ls hl => ?_)
              refine lv_iinc (v := nI (i + 1)) (lv' := [(6, .int (nI (i + 1))), (5, .int (nI 1)), (0, .ref (P 0)), (1, .int (nI k9)), (2, .int (nI i0)), (3, .int (nI j0)), (4, .int (nI (((sp (i0 + 1)) - (sp i0)) - 1)))]) hx hb dd_MO_isWord_106 hl (k := 6) rfl (nI_1 i) (by decide) rfl (fun ls hl => ?_)
              refine lv_goto (tgt := 51) hx hb dd_MO_isWord_109 (by decide) ?_
              exact ih51 (i + 1) true (by omega) (fun _ => ⟨hv3, fun j hj => by
                  by_cases h9 : j = i
                  · subst h9; exact he
                  · exact hv4 j (by omega)⟩) (fun h9 => by cases h9) (by omega) _ _ _ hP hS (lv_sub hl [2, 3, 4, 5, 6, 1, 0] rfl)
    exact lp51 _ 0 true (Nat.zero_le _) (fun _ => ⟨by omega, fun j hj => absurd hj (Nat.not_lt_zero _)⟩) (fun h9 => by cases h9) (Nat.lt_succ_self _) _ _ _ hP hS (lv_sub hl [3, 4, 5, 6, 2, 1, 0] rfl)
set_option maxHeartbeats 4000000 in
set_option maxRecDepth 100000 in
theorem kc_MO_isTopic (l : Launch) (B : Nat) (D : va_G) (G : Nat → Nat) (M : hm_M) (P O : Nat → Nat) (I : Nat → Int32) (A : Nat → Nat → Int32) (L : Nat → Nat → Int64) (hD : mo_D B D P O M I A L) (bs : List bd_T) (hB : bdS (I 6) (A 7) (A 8) (A 9) (A 10) bs) (key : List Nat) (hK : tpS (I 12) (A 11) key) (k9 : Nat) (b : bd_T) (hb1 : bs[k9]? = some b) : Met l yy_MO_isTopic ws_MO_isTopic ({ frames := 1, cells := 0, slots := 0, locals := 26 }) (hm_Pc B D G M [.ref (P 0), .int (nI k9)]) (hm_Ni B D (fun r M1 => r = nI (bz (tp_like b.2.2.2 key)) ∧ ∃ fa fb fc, mo_D B D P O M1 I (va_up (va_up (va_up A 19 fa) 20 fb) 21 fc) L ∧ cz_F O M O M1 pm)) (0) (0) (hm_A B) := by
  refine Met.ofW (cc := cd_MO_isTopic) (maxL := 9) (ret := ((some FieldType.boolean))) (by decide) rfl ?_
  intro p e s m args below meth c s₁ B0 hml hv
  obtain ⟨rfl, hE, hP⟩ := hv
  have hx := B0.exec
  have hb := B0.bytes
  have hr := B0.returns
  have hts : ∀ w ∈ tb_G, w.before _ s = true := fun w h => atoms_spec (ws := ws_MO_isTopic) B0.pre w (List.mem_cons_of_mem _ h)
  have hown : s.vm.findClass "RouteDeskModel" = some m.cls := findClass_of_methodNamed B0.named
  have hlocks := B0.notSynchronized
  have hRf : (headSpec ws_MO_isTopic { frames := 1, cells := 0, slots := 0, locals := 26 }).room.frames = 1 := rfl
  have hRl : (headSpec ws_MO_isTopic { frames := 1, cells := 0, slots := 0, locals := 26 }).room.locals = 26 := rfl
  have hRc : (headSpec ws_MO_isTopic { frames := 1, cells := 0, slots := 0, locals := 26 }).room.cells = 0 := rfl
  have hRs : (headSpec ws_MO_isTopic { frames := 1, cells := 0, slots := 0, locals := 26 }).room.slots = 0 := rfl
  generalize (headSpec ws_MO_isTopic { frames := 1, cells := 0, slots := 0, locals := 26 }).room = R at hRf hRl hRc hRs ⊢
  have hS : va_S (hm_A B) s.heap s.heap [] := va_S.rf
  have hl := lv_entry ([.ref (P 0), .int (nI k9)]) (n := 9) (Nat.le_of_ble_eq_true rfl)
  rw [lg_entry_eq]
  generalize (lg_sl ([.ref (P 0), .int (nI k9)]) ++ List.replicate (9 - (lg_sl ([.ref (P 0), .int (nI k9)])).length) Slot.unset).toArray = ls at hl ⊢
  have hl : lv_has ls 9 [(0, .ref (P 0)), (1, .int (nI k9))] := hl
  have t16 : (nI 16).toInt = 16 := by decide
  have tm1 : (-1 : Int32).toInt = -1 := by decide
  have t0 : (nI 0).toInt = 0 := by decide
  have t2 : (nI 2).toInt = 2 := by decide
  have t3 : (nI 3).toInt = 3 := by decide
  have t1 : (nI 1).toInt = 1 := by decide
  have t4 : (nI 4).toInt = 4 := by decide
  obtain ⟨p0, p1, p3, p4, p5, p7, p8, p9, p10, p11, p14, p15, p16, p17, p19, p20, p21, po, pb⟩ := id hD
  obtain ⟨bi1, bi2, bi3⟩ := id hB
  obtain ⟨ki1, ki2, ki3, ki4⟩ := id hK
  obtain ⟨bf1, bf2, ⟨bt1, bt2, bt3, bt4⟩, bf4, bf5⟩ := bi3 k9 b hb1
  have hk120 := (List.getElem?_eq_some_iff.mp hb1).1
  refine lv_iconst (v := nI 1) hx hb dd_MO_isTopic_0 (by decide +kernel) ?_
  refine lv_istore_n (lv' := [(2, .int (nI 1)), (0, .ref (P 0)), (1, .int (nI k9))]) hx hb dd_MO_isTopic_1 rfl hl (by decide) rfl (fun ls hl => ?_)
  refine lv_aload_n hx hb dd_MO_isTopic_2 rfl (lv_at hl 1 rfl) ?_
  refine hm_get (ci := 6) (C := rn_MO) (T := ft_MO) (N := 22) hx hb hts fi_MO hown hE.K hP p0 rfl 20 (by decide) (hts _ tw_1006) (fun _ h9 => h9) rfl dd_MO_isTopic_3 ?_
  refine lv_iconst (v := nI 0) hx hb dd_MO_isTopic_6 (by decide +kernel) ?_
  refine lv_iconst (v := nI 0) hx hb dd_MO_isTopic_7 (by decide +kernel) ?_
  refine hm_iast (j := 0) hx hb hE.K hP hS (pb 20 (by decide)) 2 p20 rfl (vp_in_nI (by omega) (by omega)) (nI_clamp (by omega)) dd_MO_isTopic_8 (fun H locs hP hS => ?_)
  obtain ⟨M1, eM1⟩ : ∃ z, z = hm_up M (P 20) (.inl (D.1 102, 52, .inl (upd (A 20) 0 (nI 0)))) := ⟨_, rfl⟩
  rw [← eM1] at hP
  have f2 : M1 (P 0) = some (.inr (6, [.int (I 0), .ref (P 1), .int (I 2), .ref (P 3), .ref (P 4), .ref (P 5), .int (I 6), .ref (P 7), .ref (P 8), .ref (P 9), .ref (P 10), .ref (P 11), .int (I 12), .int (I 13), .ref (P 14), .ref (P 15), .ref (P 16), .ref (P 17), .int (I 18), .ref (P 19), .ref (P 20), .ref (P 21)])) := by rw [eM1]; exact hm_up_o (hm_neO (po 0 (by decide)) (po 20 (by decide)) (by decide)) p0
  have f3 : M1 (P 1) = some (.inl (D.1 102, 48, .inl (A 1))) := by rw [eM1]; exact hm_up_o (hm_neO (po 1 (by decide)) (po 20 (by decide)) (by decide)) p1
  have f4 : M1 (P 3) = some (.inl (D.1 102, 16, .inl (A 3))) := by rw [eM1]; exact hm_up_o (hm_neO (po 3 (by decide)) (po 20 (by decide)) (by decide)) p3
  have f5 : M1 (P 4) = some (.inl (D.1 102, 16, .inl (A 4))) := by rw [eM1]; exact hm_up_o (hm_neO (po 4 (by decide)) (po 20 (by decide)) (by decide)) p4
  have f6 : M1 (P 5) = some (.inl (D.1 101, 16, .inl (A 5))) := by rw [eM1]; exact hm_up_o (hm_neO (po 5 (by decide)) (po 20 (by decide)) (by decide)) p5
  have f7 : M1 (P 7) = some (.inl (D.1 102, 120, .inl (A 7))) := by rw [eM1]; exact hm_up_o (hm_neO (po 7 (by decide)) (po 20 (by decide)) (by decide)) p7
  have f8 : M1 (P 8) = some (.inl (D.1 102, 120, .inl (A 8))) := by rw [eM1]; exact hm_up_o (hm_neO (po 8 (by decide)) (po 20 (by decide)) (by decide)) p8
  have f9 : M1 (P 9) = some (.inl (D.1 102, 120, .inl (A 9))) := by rw [eM1]; exact hm_up_o (hm_neO (po 9 (by decide)) (po 20 (by decide)) (by decide)) p9
  have f10 : M1 (P 10) = some (.inl (D.1 102, 5760, .inl (A 10))) := by rw [eM1]; exact hm_up_o (hm_neO (po 10 (by decide)) (po 20 (by decide)) (by decide)) p10
  have f11 : M1 (P 11) = some (.inl (D.1 102, 48, .inl (A 11))) := by rw [eM1]; exact hm_up_o (hm_neO (po 11 (by decide)) (po 20 (by decide)) (by decide)) p11
  have f12 : M1 (P 14) = some (.inl (D.1 103, 6, .inr (.inl (L 14)))) := by rw [eM1]; exact hm_up_o (hm_neO (po 14 (by decide)) (po 20 (by decide)) (by decide)) p14
  have f13 : M1 (P 15) = some (.inl (D.1 103, 6, .inr (.inl (L 15)))) := by rw [eM1]; exact hm_up_o (hm_neO (po 15 (by decide)) (po 20 (by decide)) (by decide)) p15
  have f14 : M1 (P 16) = some (.inl (D.1 101, 16, .inl (A 16))) := by rw [eM1]; exact hm_up_o (hm_neO (po 16 (by decide)) (po 20 (by decide)) (by decide)) p16
  have f15 : M1 (P 17) = some (.inl (D.1 101, 16, .inl (A 17))) := by rw [eM1]; exact hm_up_o (hm_neO (po 17 (by decide)) (po 20 (by decide)) (by decide)) p17
  have f16 : M1 (P 19) = some (.inl (D.1 101, 2601, .inl (A 19))) := by rw [eM1]; exact hm_up_o (hm_neO (po 19 (by decide)) (po 20 (by decide)) (by decide)) p19
  have f17 : M1 (P 21) = some (.inl (D.1 102, 52, .inl (A 21))) := by rw [eM1]; exact hm_up_o (hm_neO (po 21 (by decide)) (po 20 (by decide)) (by decide)) p21
  have f18 : M1 (P 20) = some (.inl (D.1 102, 52, .inl (upd (A 20) 0 (nI 0)))) := by rw [eM1]; exact hm_up_s
  refine lv_iconst (v := nI 0) hx hb dd_MO_isTopic_9 (by decide +kernel) ?_
  refine lv_istore_n (lv' := [(3, .int (nI 0)), (2, .int (nI 1)), (0, .ref (P 0)), (1, .int (nI k9))]) hx hb dd_MO_isTopic_10 rfl hl (by decide) rfl (fun ls hl => ?_)
  have lp11 : ∀ (n9 : Nat) (k : Nat) (w : Nat) (fp : Nat → Int32) (sp : Nat → Nat) (Mu11 : hm_M), (sp_I b.2.2.2 sp w k) → (∀ j, j < w → fp j = nI (sp j)) → (mo_D B D P O Mu11 I (va_up A 20 fp) L) → (cz_F O M O Mu11 pm) → b.2.2.2.length - k < n9 → ∀ (H : Heap) (locs : List Loc) (ls : Array Slot), hm_P D cl_W Mu11 H → va_S (hm_A B) s.heap H locs → lv_has ls 9 [(0, .ref (P 0)), (1, .int (nI k9)), (2, .int (nI w)), (3, .int (nI k))] → W p l e R s m ([.ref (P 0), .int (nI k9)] : List Value).toArray below meth c H locs (0) (0) (MQ below (hm_Ni B D (fun r M1 => r = nI (bz (tp_like b.2.2.2 key)) ∧ ∃ fa fb fc, mo_D B D P O M1 I (va_up (va_up (va_up A 19 fa) 20 fb) 21 fc) L ∧ cz_F O M O M1 pm)) ([.ref (P 0), .int (nI k9)] : List Value).toArray s (0) (0) (hm_A B)) (F0 m 11 ls []) := by
    intro n9
    induction n9 with
    | zero => intro k w fp sp Mu11 hsi hfi hd11 hF11 hm; exact absurd hm (Nat.not_lt_zero _)
    | succ n9 ih11 =>
      intro k w fp sp Mu11 hsi hfi hd11 hF11 hm H locs ls hP hS hl
      obtain ⟨g19_0, g19_1, g19_3, g19_4, g19_5, g19_7, g19_8, g19_9, g19_10, g19_11, g19_14, g19_15, g19_16, g19_17, g19_19, g19_20, g19_21, -, -⟩ := id hd11
      have g19_1 : Mu11 (P 1) = some (.inl (D.1 102, 48, .inl (A 1))) := g19_1
      have g19_3 : Mu11 (P 3) = some (.inl (D.1 102, 16, .inl (A 3))) := g19_3
      have g19_4 : Mu11 (P 4) = some (.inl (D.1 102, 16, .inl (A 4))) := g19_4
      have g19_5 : Mu11 (P 5) = some (.inl (D.1 101, 16, .inl (A 5))) := g19_5
      have g19_7 : Mu11 (P 7) = some (.inl (D.1 102, 120, .inl (A 7))) := g19_7
      have g19_8 : Mu11 (P 8) = some (.inl (D.1 102, 120, .inl (A 8))) := g19_8
      have g19_9 : Mu11 (P 9) = some (.inl (D.1 102, 120, .inl (A 9))) := g19_9
      have g19_10 : Mu11 (P 10) = some (.inl (D.1 102, 5760, .inl (A 10))) := g19_10
      have g19_11 : Mu11 (P 11) = some (.inl (D.1 102, 48, .inl (A 11))) := g19_11
      have g19_16 : Mu11 (P 16) = some (.inl (D.1 101, 16, .inl (A 16))) := g19_16
      have g19_17 : Mu11 (P 17) = some (.inl (D.1 101, 16, .inl (A 17))) := g19_17
      have g19_19 : Mu11 (P 19) = some (.inl (D.1 101, 2601, .inl (A 19))) := g19_19
      have g19_20 : Mu11 (P 20) = some (.inl (D.1 102, 52, .inl fp)) := g19_20
      have g19_21 : Mu11 (P 21) = some (.inl (D.1 102, 52, .inl (A 21))) := g19_21
      have hs1 := hsi.1
      have hs2 := hsi.2.1
      have hs3 := hsi.2.2.2.1
      have hbl1 := tx_lt bt4 k
      refine lv_iload_n hx hb dd_MO_isTopic_11 rfl (lv_at hl 3 rfl) ?_
      refine lv_aload_n hx hb dd_MO_isTopic_12 rfl (lv_at hl 0 rfl) ?_
      refine hm_get (ci := 6) (C := rn_MO) (T := ft_MO) (N := 22) hx hb hts fi_MO hown hE.K hP g19_0 rfl 9 (by decide) (hts _ tw_995) (fun _ h9 => h9) rfl dd_MO_isTopic_13 ?_
      refine lv_iload_n hx hb dd_MO_isTopic_16 rfl (lv_at hl 1 rfl) ?_
      refine hm_iald (j := k9) hx hb hE.K hP 2 g19_9 rfl (vp_in_nI (by omega) (by omega)) (nI_clamp (by omega)) dd_MO_isTopic_17 ?_
      refine W.eq (g2 := F0 m 18 ls [.int (nI b.2.2.2.length), .int (nI k)]) (by rw [bt1]) ?_
      refine hn_icmp_ge (tgt := 58) hx hb (by omega) (by omega) dd_MO_isTopic_18 (by decide) (fun c20 => ?_) (fun c20 => ?_)
      · refine lv_aload_n hx hb dd_MO_isTopic_58 rfl (lv_at hl 0 rfl) ?_
        refine hm_get (ci := 6) (C := rn_MO) (T := ft_MO) (N := 22) hx hb hts fi_MO hown hE.K hP g19_0 rfl 20 (by decide) (hts _ tw_1006) (fun _ h9 => h9) rfl dd_MO_isTopic_59 ?_
        refine lv_iload_n hx hb dd_MO_isTopic_62 rfl (lv_at hl 2 rfl) ?_
        refine lv_aload_n hx hb dd_MO_isTopic_63 rfl (lv_at hl 0 rfl) ?_
        refine hm_get (ci := 6) (C := rn_MO) (T := ft_MO) (N := 22) hx hb hts fi_MO hown hE.K hP g19_0 rfl 9 (by decide) (hts _ tw_995) (fun _ h9 => h9) rfl dd_MO_isTopic_64 ?_
        refine lv_iload_n hx hb dd_MO_isTopic_67 rfl (lv_at hl 1 rfl) ?_
        refine hm_iald (j := k9) hx hb hE.K hP 2 g19_9 rfl (vp_in_nI (by omega) (by omega)) (nI_clamp (by omega)) dd_MO_isTopic_68 ?_
        refine W.eq (g2 := F0 m 69 ls [.int (nI b.2.2.2.length), .int (nI w), .ref (P 20)]) (by rw [bt1]) ?_
        refine lv_iconst (v := nI 1) hx hb dd_MO_isTopic_69 (by decide +kernel) ?_
        refine hn_iadd hx hb dd_MO_isTopic_70 ?_
        refine hm_iast (j := w) hx hb hE.K hP hS (pb 20 (by decide)) 2 g19_20 rfl (vp_in_nI (by omega) (by omega)) (nI_clamp (by omega)) dd_MO_isTopic_71 (fun H locs hP hS => ?_)
        obtain ⟨M21, eM21⟩ : ∃ z, z = hm_up Mu11 (P 20) (.inl (D.1 102, 52, .inl (upd fp w (nI (b.2.2.2.length + 1))))) := ⟨_, rfl⟩
        rw [← eM21] at hP
        have f22 : M21 (P 0) = some (.inr (6, [.int (I 0), .ref (P 1), .int (I 2), .ref (P 3), .ref (P 4), .ref (P 5), .int (I 6), .ref (P 7), .ref (P 8), .ref (P 9), .ref (P 10), .ref (P 11), .int (I 12), .int (I 13), .ref (P 14), .ref (P 15), .ref (P 16), .ref (P 17), .int (I 18), .ref (P 19), .ref (P 20), .ref (P 21)])) := by rw [eM21]; exact hm_up_o (hm_neO (po 0 (by decide)) (po 20 (by decide)) (by decide)) g19_0
        have f23 : M21 (P 1) = some (.inl (D.1 102, 48, .inl (A 1))) := by rw [eM21]; exact hm_up_o (hm_neO (po 1 (by decide)) (po 20 (by decide)) (by decide)) g19_1
        have f24 : M21 (P 3) = some (.inl (D.1 102, 16, .inl (A 3))) := by rw [eM21]; exact hm_up_o (hm_neO (po 3 (by decide)) (po 20 (by decide)) (by decide)) g19_3
        have f25 : M21 (P 4) = some (.inl (D.1 102, 16, .inl (A 4))) := by rw [eM21]; exact hm_up_o (hm_neO (po 4 (by decide)) (po 20 (by decide)) (by decide)) g19_4
        have f26 : M21 (P 5) = some (.inl (D.1 101, 16, .inl (A 5))) := by rw [eM21]; exact hm_up_o (hm_neO (po 5 (by decide)) (po 20 (by decide)) (by decide)) g19_5
        have f27 : M21 (P 7) = some (.inl (D.1 102, 120, .inl (A 7))) := by rw [eM21]; exact hm_up_o (hm_neO (po 7 (by decide)) (po 20 (by decide)) (by decide)) g19_7
        have f28 : M21 (P 8) = some (.inl (D.1 102, 120, .inl (A 8))) := by rw [eM21]; exact hm_up_o (hm_neO (po 8 (by decide)) (po 20 (by decide)) (by decide)) g19_8
        have f29 : M21 (P 9) = some (.inl (D.1 102, 120, .inl (A 9))) := by rw [eM21]; exact hm_up_o (hm_neO (po 9 (by decide)) (po 20 (by decide)) (by decide)) g19_9
        have f30 : M21 (P 10) = some (.inl (D.1 102, 5760, .inl (A 10))) := by rw [eM21]; exact hm_up_o (hm_neO (po 10 (by decide)) (po 20 (by decide)) (by decide)) g19_10
        have f31 : M21 (P 11) = some (.inl (D.1 102, 48, .inl (A 11))) := by rw [eM21]; exact hm_up_o (hm_neO (po 11 (by decide)) (po 20 (by decide)) (by decide)) g19_11
        have f32 : M21 (P 14) = some (.inl (D.1 103, 6, .inr (.inl (L 14)))) := by rw [eM21]; exact hm_up_o (hm_neO (po 14 (by decide)) (po 20 (by decide)) (by decide)) g19_14
        have f33 : M21 (P 15) = some (.inl (D.1 103, 6, .inr (.inl (L 15)))) := by rw [eM21]; exact hm_up_o (hm_neO (po 15 (by decide)) (po 20 (by decide)) (by decide)) g19_15
        have f34 : M21 (P 16) = some (.inl (D.1 101, 16, .inl (A 16))) := by rw [eM21]; exact hm_up_o (hm_neO (po 16 (by decide)) (po 20 (by decide)) (by decide)) g19_16
        have f35 : M21 (P 17) = some (.inl (D.1 101, 16, .inl (A 17))) := by rw [eM21]; exact hm_up_o (hm_neO (po 17 (by decide)) (po 20 (by decide)) (by decide)) g19_17
        have f36 : M21 (P 19) = some (.inl (D.1 101, 2601, .inl (A 19))) := by rw [eM21]; exact hm_up_o (hm_neO (po 19 (by decide)) (po 20 (by decide)) (by decide)) g19_19
        have f37 : M21 (P 21) = some (.inl (D.1 102, 52, .inl (A 21))) := by rw [eM21]; exact hm_up_o (hm_neO (po 21 (by decide)) (po 20 (by decide)) (by decide)) g19_21
        have f38 : M21 (P 20) = some (.inl (D.1 102, 52, .inl (upd fp w (nI (b.2.2.2.length + 1))))) := by rw [eM21]; exact hm_up_s
        refine lv_iconst (v := nI 1) hx hb dd_MO_isTopic_72 (by decide +kernel) ?_
        refine lv_istore_n (lv' := [(3, .int (nI 1)), (0, .ref (P 0)), (1, .int (nI k9)), (2, .int (nI w))]) hx hb dd_MO_isTopic_73 rfl hl (by decide) rfl (fun ls hl => ?_)
        refine lv_aload_n hx hb dd_MO_isTopic_74 rfl (lv_at hl 1 rfl) ?_
        refine hm_get (ci := 6) (C := rn_MO) (T := ft_MO) (N := 22) hx hb hts fi_MO hown hE.K hP f22 rfl 21 (by decide) (hts _ tw_1007) (fun _ h9 => h9) rfl dd_MO_isTopic_75 ?_
        refine lv_iconst (v := nI 0) hx hb dd_MO_isTopic_78 (by decide +kernel) ?_
        refine lv_iconst (v := nI 0) hx hb dd_MO_isTopic_79 (by decide +kernel) ?_
        refine hm_iast (j := 0) hx hb hE.K hP hS (pb 21 (by decide)) 2 f37 rfl (vp_in_nI (by omega) (by omega)) (nI_clamp (by omega)) dd_MO_isTopic_80 (fun H locs hP hS => ?_)
        obtain ⟨M39, eM39⟩ : ∃ z, z = hm_up M21 (P 21) (.inl (D.1 102, 52, .inl (upd (A 21) 0 (nI 0)))) := ⟨_, rfl⟩
        rw [← eM39] at hP
        have f40 : M39 (P 0) = some (.inr (6, [.int (I 0), .ref (P 1), .int (I 2), .ref (P 3), .ref (P 4), .ref (P 5), .int (I 6), .ref (P 7), .ref (P 8), .ref (P 9), .ref (P 10), .ref (P 11), .int (I 12), .int (I 13), .ref (P 14), .ref (P 15), .ref (P 16), .ref (P 17), .int (I 18), .ref (P 19), .ref (P 20), .ref (P 21)])) := by rw [eM39]; exact hm_up_o (hm_neO (po 0 (by decide)) (po 21 (by decide)) (by decide)) f22
        have f41 : M39 (P 1) = some (.inl (D.1 102, 48, .inl (A 1))) := by rw [eM39]; exact hm_up_o (hm_neO (po 1 (by decide)) (po 21 (by decide)) (by decide)) f23
        have f42 : M39 (P 3) = some (.inl (D.1 102, 16, .inl (A 3))) := by rw [eM39]; exact hm_up_o (hm_neO (po 3 (by decide)) (po 21 (by decide)) (by decide)) f24
        have f43 : M39 (P 4) = some (.inl (D.1 102, 16, .inl (A 4))) := by rw [eM39]; exact hm_up_o (hm_neO (po 4 (by decide)) (po 21 (by decide)) (by decide)) f25
        have f44 : M39 (P 5) = some (.inl (D.1 101, 16, .inl (A 5))) := by rw [eM39]; exact hm_up_o (hm_neO (po 5 (by decide)) (po 21 (by decide)) (by decide)) f26
        have f45 : M39 (P 7) = some (.inl (D.1 102, 120, .inl (A 7))) := by rw [eM39]; exact hm_up_o (hm_neO (po 7 (by decide)) (po 21 (by decide)) (by decide)) f27
        have f46 : M39 (P 8) = some (.inl (D.1 102, 120, .inl (A 8))) := by rw [eM39]; exact hm_up_o (hm_neO (po 8 (by decide)) (po 21 (by decide)) (by decide)) f28
        have f47 : M39 (P 9) = some (.inl (D.1 102, 120, .inl (A 9))) := by rw [eM39]; exact hm_up_o (hm_neO (po 9 (by decide)) (po 21 (by decide)) (by decide)) f29
        have f48 : M39 (P 10) = some (.inl (D.1 102, 5760, .inl (A 10))) := by rw [eM39]; exact hm_up_o (hm_neO (po 10 (by decide)) (po 21 (by decide)) (by decide)) f30
        have f49 : M39 (P 11) = some (.inl (D.1 102, 48, .inl (A 11))) := by rw [eM39]; exact hm_up_o (hm_neO (po 11 (by decide)) (po 21 (by decide)) (by decide)) f31
        have f50 : M39 (P 14) = some (.inl (D.1 103, 6, .inr (.inl (L 14)))) := by rw [eM39]; exact hm_up_o (hm_neO (po 14 (by decide)) (po 21 (by decide)) (by decide)) f32
        have f51 : M39 (P 15) = some (.inl (D.1 103, 6, .inr (.inl (L 15)))) := by rw [eM39]; exact hm_up_o (hm_neO (po 15 (by decide)) (po 21 (by decide)) (by decide)) f33
        have f52 : M39 (P 16) = some (.inl (D.1 101, 16, .inl (A 16))) := by rw [eM39]; exact hm_up_o (hm_neO (po 16 (by decide)) (po 21 (by decide)) (by decide)) f34
        have f53 : M39 (P 17) = some (.inl (D.1 101, 16, .inl (A 17))) := by rw [eM39]; exact hm_up_o (hm_neO (po 17 (by decide)) (po 21 (by decide)) (by decide)) f35
        have f54 : M39 (P 19) = some (.inl (D.1 101, 2601, .inl (A 19))) := by rw [eM39]; exact hm_up_o (hm_neO (po 19 (by decide)) (po 21 (by decide)) (by decide)) f36
        have f55 : M39 (P 20) = some (.inl (D.1 102, 52, .inl (upd fp w (nI (b.2.2.2.length + 1))))) := by rw [eM39]; exact hm_up_o (hm_neO (po 20 (by decide)) (po 21 (by decide)) (by decide)) f38
        have f56 : M39 (P 21) = some (.inl (D.1 102, 52, .inl (upd (A 21) 0 (nI 0)))) := by rw [eM39]; exact hm_up_s
        refine lv_iconst (v := nI 0) hx hb dd_MO_isTopic_81 (by decide +kernel) ?_
        refine lv_istore (lv' := [(4, .int (nI 0)), (3, .int (nI 1)), (0, .ref (P 0)), (1, .int (nI k9)), (2, .int (nI w))]) hx hb dd_MO_isTopic_82 hl (by decide) rfl (fun ls hl => ?_)
        obtain ⟨fp1, efp1⟩ : ∃ z, z = upd fp w (nI (b.2.2.2.length + 1)) := ⟨_, rfl⟩
        have f57 : M39 (P 20) = some (.inl (D.1 102, 52, .inl fp1)) := by rw [efp1]; exact f55
        have hsp1 := sp_e hsi (show k = b.2.2.2.length by omega)
        have hfp1 : ∀ j, j < w + 1 → fp1 j = nI (va_up sp w (b.2.2.2.length + 1) j) := by rw [efp1]; exact fp_up hfi
        obtain ⟨sp1, esp1⟩ : ∃ z, z = va_up sp w (b.2.2.2.length + 1) := ⟨_, rfl⟩
        rw [← esp1] at hsp1 hfp1
        have hw48 := hsp1.2.1
        have lp84 : ∀ (n9 : Nat) (k2 : Nat) (w2 : Nat) (fk : Nat → Int32) (sk : Nat → Nat) (Mu84 : hm_M), (sp_I key sk w2 k2) → (∀ j, j < w2 → fk j = nI (sk j)) → (mo_D B D P O Mu84 I (va_up (va_up A 20 fp1) 21 fk) L) → (cz_F O M O Mu84 pm) → key.length - k2 < n9 → ∀ (H : Heap) (locs : List Loc) (ls : Array Slot), hm_P D cl_W Mu84 H → va_S (hm_A B) s.heap H locs → lv_has ls 9 [(0, .ref (P 0)), (1, .int (nI k9)), (2, .int (nI w)), (3, .int (nI w2)), (4, .int (nI k2))] → W p l e R s m ([.ref (P 0), .int (nI k9)] : List Value).toArray below meth c H locs (0) (0) (MQ below (hm_Ni B D (fun r M1 => r = nI (bz (tp_like b.2.2.2 key)) ∧ ∃ fa fb fc, mo_D B D P O M1 I (va_up (va_up (va_up A 19 fa) 20 fb) 21 fc) L ∧ cz_F O M O M1 pm)) ([.ref (P 0), .int (nI k9)] : List Value).toArray s (0) (0) (hm_A B)) (F0 m 84 ls []) := by
          intro n9
          induction n9 with
          | zero => intro k2 w2 fk sk Mu84 hki hfk hd84 hF84 hm; exact absurd hm (Nat.not_lt_zero _)
          | succ n9 ih84 =>
            intro k2 w2 fk sk Mu84 hki hfk hd84 hF84 hm H locs ls hP hS hl
            obtain ⟨g58_0, g58_1, g58_3, g58_4, g58_5, g58_7, g58_8, g58_9, g58_10, g58_11, g58_14, g58_15, g58_16, g58_17, g58_19, g58_20, g58_21, -, -⟩ := id hd84
            have g58_1 : Mu84 (P 1) = some (.inl (D.1 102, 48, .inl (A 1))) := g58_1
            have g58_3 : Mu84 (P 3) = some (.inl (D.1 102, 16, .inl (A 3))) := g58_3
            have g58_4 : Mu84 (P 4) = some (.inl (D.1 102, 16, .inl (A 4))) := g58_4
            have g58_5 : Mu84 (P 5) = some (.inl (D.1 101, 16, .inl (A 5))) := g58_5
            have g58_7 : Mu84 (P 7) = some (.inl (D.1 102, 120, .inl (A 7))) := g58_7
            have g58_8 : Mu84 (P 8) = some (.inl (D.1 102, 120, .inl (A 8))) := g58_8
            have g58_9 : Mu84 (P 9) = some (.inl (D.1 102, 120, .inl (A 9))) := g58_9
            have g58_10 : Mu84 (P 10) = some (.inl (D.1 102, 5760, .inl (A 10))) := g58_10
            have g58_11 : Mu84 (P 11) = some (.inl (D.1 102, 48, .inl (A 11))) := g58_11
            have g58_16 : Mu84 (P 16) = some (.inl (D.1 101, 16, .inl (A 16))) := g58_16
            have g58_17 : Mu84 (P 17) = some (.inl (D.1 101, 16, .inl (A 17))) := g58_17
            have g58_19 : Mu84 (P 19) = some (.inl (D.1 101, 2601, .inl (A 19))) := g58_19
            have g58_20 : Mu84 (P 20) = some (.inl (D.1 102, 52, .inl fp1)) := g58_20
            have g58_21 : Mu84 (P 21) = some (.inl (D.1 102, 52, .inl fk)) := g58_21
            have hs1k := hki.1
            have hs2k := hki.2.1
            have hs3k := hki.2.2.2.1
            have hbl2 := tx_lt ki4 k2
            refine lv_iload hx hb dd_MO_isTopic_84 (lv_at hl 4 rfl) ?_
            refine lv_aload_n hx hb dd_MO_isTopic_86 rfl (lv_at hl 0 rfl) ?_
            refine hm_get (ci := 6) (C := rn_MO) (T := ft_MO) (N := 22) hx hb hts fi_MO hown hE.K hP g58_0 rfl 12 (by decide) (hts _ tw_998) (fun _ h9 => h9) rfl dd_MO_isTopic_87 ?_
            refine W.eq (g2 := F0 m 90 ls [.int (nI key.length), .int (nI k2)]) (by rw [ki1]) ?_
            refine hn_icmp_ge (tgt := 127) hx hb (by omega) (by omega) dd_MO_isTopic_90 (by decide) (fun c59 => ?_) (fun c59 => ?_)
            · refine lv_aload_n hx hb dd_MO_isTopic_127 rfl (lv_at hl 0 rfl) ?_
              refine hm_get (ci := 6) (C := rn_MO) (T := ft_MO) (N := 22) hx hb hts fi_MO hown hE.K hP g58_0 rfl 21 (by decide) (hts _ tw_1007) (fun _ h9 => h9) rfl dd_MO_isTopic_128 ?_
              refine lv_iload_n hx hb dd_MO_isTopic_131 rfl (lv_at hl 3 rfl) ?_
              refine lv_aload_n hx hb dd_MO_isTopic_132 rfl (lv_at hl 0 rfl) ?_
              refine hm_get (ci := 6) (C := rn_MO) (T := ft_MO) (N := 22) hx hb hts fi_MO hown hE.K hP g58_0 rfl 12 (by decide) (hts _ tw_998) (fun _ h9 => h9) rfl dd_MO_isTopic_133 ?_
              refine W.eq (g2 := F0 m 136 ls [.int (nI key.length), .int (nI w2), .ref (P 21)]) (by rw [ki1]) ?_
              refine lv_iconst (v := nI 1) hx hb dd_MO_isTopic_136 (by decide +kernel) ?_
              refine hn_iadd hx hb dd_MO_isTopic_137 ?_
              refine hm_iast (j := w2) hx hb hE.K hP hS (pb 21 (by decide)) 2 g58_21 rfl (vp_in_nI (by omega) (by omega)) (nI_clamp (by omega)) dd_MO_isTopic_138 (fun H locs hP hS => ?_)
              obtain ⟨M60, eM60⟩ : ∃ z, z = hm_up Mu84 (P 21) (.inl (D.1 102, 52, .inl (upd fk w2 (nI (key.length + 1))))) := ⟨_, rfl⟩
              rw [← eM60] at hP
              have f61 : M60 (P 0) = some (.inr (6, [.int (I 0), .ref (P 1), .int (I 2), .ref (P 3), .ref (P 4), .ref (P 5), .int (I 6), .ref (P 7), .ref (P 8), .ref (P 9), .ref (P 10), .ref (P 11), .int (I 12), .int (I 13), .ref (P 14), .ref (P 15), .ref (P 16), .ref (P 17), .int (I 18), .ref (P 19), .ref (P 20), .ref (P 21)])) := by rw [eM60]; exact hm_up_o (hm_neO (po 0 (by decide)) (po 21 (by decide)) (by decide)) g58_0
              have f62 : M60 (P 1) = some (.inl (D.1 102, 48, .inl (A 1))) := by rw [eM60]; exact hm_up_o (hm_neO (po 1 (by decide)) (po 21 (by decide)) (by decide)) g58_1
              have f63 : M60 (P 3) = some (.inl (D.1 102, 16, .inl (A 3))) := by rw [eM60]; exact hm_up_o (hm_neO (po 3 (by decide)) (po 21 (by decide)) (by decide)) g58_3
              have f64 : M60 (P 4) = some (.inl (D.1 102, 16, .inl (A 4))) := by rw [eM60]; exact hm_up_o (hm_neO (po 4 (by decide)) (po 21 (by decide)) (by decide)) g58_4
              have f65 : M60 (P 5) = some (.inl (D.1 101, 16, .inl (A 5))) := by rw [eM60]; exact hm_up_o (hm_neO (po 5 (by decide)) (po 21 (by decide)) (by decide)) g58_5
              have f66 : M60 (P 7) = some (.inl (D.1 102, 120, .inl (A 7))) := by rw [eM60]; exact hm_up_o (hm_neO (po 7 (by decide)) (po 21 (by decide)) (by decide)) g58_7
              have f67 : M60 (P 8) = some (.inl (D.1 102, 120, .inl (A 8))) := by rw [eM60]; exact hm_up_o (hm_neO (po 8 (by decide)) (po 21 (by decide)) (by decide)) g58_8
              have f68 : M60 (P 9) = some (.inl (D.1 102, 120, .inl (A 9))) := by rw [eM60]; exact hm_up_o (hm_neO (po 9 (by decide)) (po 21 (by decide)) (by decide)) g58_9
              have f69 : M60 (P 10) = some (.inl (D.1 102, 5760, .inl (A 10))) := by rw [eM60]; exact hm_up_o (hm_neO (po 10 (by decide)) (po 21 (by decide)) (by decide)) g58_10
              have f70 : M60 (P 11) = some (.inl (D.1 102, 48, .inl (A 11))) := by rw [eM60]; exact hm_up_o (hm_neO (po 11 (by decide)) (po 21 (by decide)) (by decide)) g58_11
              have f71 : M60 (P 14) = some (.inl (D.1 103, 6, .inr (.inl (L 14)))) := by rw [eM60]; exact hm_up_o (hm_neO (po 14 (by decide)) (po 21 (by decide)) (by decide)) g58_14
              have f72 : M60 (P 15) = some (.inl (D.1 103, 6, .inr (.inl (L 15)))) := by rw [eM60]; exact hm_up_o (hm_neO (po 15 (by decide)) (po 21 (by decide)) (by decide)) g58_15
              have f73 : M60 (P 16) = some (.inl (D.1 101, 16, .inl (A 16))) := by rw [eM60]; exact hm_up_o (hm_neO (po 16 (by decide)) (po 21 (by decide)) (by decide)) g58_16
              have f74 : M60 (P 17) = some (.inl (D.1 101, 16, .inl (A 17))) := by rw [eM60]; exact hm_up_o (hm_neO (po 17 (by decide)) (po 21 (by decide)) (by decide)) g58_17
              have f75 : M60 (P 19) = some (.inl (D.1 101, 2601, .inl (A 19))) := by rw [eM60]; exact hm_up_o (hm_neO (po 19 (by decide)) (po 21 (by decide)) (by decide)) g58_19
              have f76 : M60 (P 20) = some (.inl (D.1 102, 52, .inl fp1)) := by rw [eM60]; exact hm_up_o (hm_neO (po 20 (by decide)) (po 21 (by decide)) (by decide)) g58_20
              have f77 : M60 (P 21) = some (.inl (D.1 102, 52, .inl (upd fk w2 (nI (key.length + 1))))) := by rw [eM60]; exact hm_up_s
              refine lv_iload_n hx hb dd_MO_isTopic_139 rfl (lv_at hl 2 rfl) ?_
              refine lv_istore (lv' := [(4, .int (nI w)), (0, .ref (P 0)), (1, .int (nI k9)), (2, .int (nI w)), (3, .int (nI w2))]) hx hb dd_MO_isTopic_140 hl (by decide) rfl (fun ls hl => ?_)
              obtain ⟨fk1, efk1⟩ : ∃ z, z = upd fk w2 (nI (key.length + 1)) := ⟨_, rfl⟩
              have f78 : M60 (P 21) = some (.inl (D.1 102, 52, .inl fk1)) := by rw [efk1]; exact f77
              have hsk1 := sp_e hki (show k2 = key.length by omega)
              have hfk1 : ∀ j, j < w2 + 1 → fk1 j = nI (va_up sk w2 (key.length + 1) j) := by rw [efk1]; exact fp_up hfk
              obtain ⟨sk1, esk1⟩ : ∃ z, z = va_up sk w2 (key.length + 1) := ⟨_, rfl⟩
              rw [← esk1] at hsk1 hfk1
              have hw48k := hsk1.2.1
              have hkwl := hsk1.1
              have hpwl := hsp1.1
              have lp142 : ∀ (n9 : Nat) (p9 : Nat) (y1 : Int32) (lf : Nat → Int32) (Mu142 : hm_M), (p9 ≤ w + 1) → (y1.toInt = (p9 : Int) - 1) → (∀ a c, p9 ≤ a → a ≤ w → c ≤ w2 → lf (51 * a + c) = nI (bz (lk ((wd_sp 46 b.2.2.2).drop a) ((wd_sp 46 key).drop c)))) → (mo_D B D P O Mu142 I (va_up (va_up (va_up A 19 lf) 20 fp1) 21 fk1) L) → (cz_F O M O Mu142 pm) → p9 < n9 → ∀ (H : Heap) (locs : List Loc) (ls : Array Slot), hm_P D cl_W Mu142 H → va_S (hm_A B) s.heap H locs → lv_has ls 9 [(0, .ref (P 0)), (1, .int (nI k9)), (2, .int (nI w)), (3, .int (nI w2)), (4, .int y1)] → W p l e R s m ([.ref (P 0), .int (nI k9)] : List Value).toArray below meth c H locs (0) (0) (MQ below (hm_Ni B D (fun r M1 => r = nI (bz (tp_like b.2.2.2 key)) ∧ ∃ fa fb fc, mo_D B D P O M1 I (va_up (va_up (va_up A 19 fa) 20 fb) 21 fc) L ∧ cz_F O M O M1 pm)) ([.ref (P 0), .int (nI k9)] : List Value).toArray s (0) (0) (hm_A B)) (F0 m 142 ls []) := by
                intro n9
                induction n9 with
                | zero => intro p9 y1 lf Mu142 hp hy1 hlf hd142 hF142 hm; exact absurd hm (Nat.not_lt_zero _)
                | succ n9 ih142 =>
                  intro p9 y1 lf Mu142 hp hy1 hlf hd142 hF142 hm H locs ls hP hS hl
                  obtain ⟨g79_0, g79_1, g79_3, g79_4, g79_5, g79_7, g79_8, g79_9, g79_10, g79_11, g79_14, g79_15, g79_16, g79_17, g79_19, g79_20, g79_21, -, -⟩ := id hd142
                  have g79_1 : Mu142 (P 1) = some (.inl (D.1 102, 48, .inl (A 1))) := g79_1
                  have g79_3 : Mu142 (P 3) = some (.inl (D.1 102, 16, .inl (A 3))) := g79_3
                  have g79_4 : Mu142 (P 4) = some (.inl (D.1 102, 16, .inl (A 4))) := g79_4
                  have g79_5 : Mu142 (P 5) = some (.inl (D.1 101, 16, .inl (A 5))) := g79_5
                  have g79_7 : Mu142 (P 7) = some (.inl (D.1 102, 120, .inl (A 7))) := g79_7
                  have g79_8 : Mu142 (P 8) = some (.inl (D.1 102, 120, .inl (A 8))) := g79_8
                  have g79_9 : Mu142 (P 9) = some (.inl (D.1 102, 120, .inl (A 9))) := g79_9
                  have g79_10 : Mu142 (P 10) = some (.inl (D.1 102, 5760, .inl (A 10))) := g79_10
                  have g79_11 : Mu142 (P 11) = some (.inl (D.1 102, 48, .inl (A 11))) := g79_11
                  have g79_16 : Mu142 (P 16) = some (.inl (D.1 101, 16, .inl (A 16))) := g79_16
                  have g79_17 : Mu142 (P 17) = some (.inl (D.1 101, 16, .inl (A 17))) := g79_17
                  have g79_19 : Mu142 (P 19) = some (.inl (D.1 101, 2601, .inl lf)) := g79_19
                  have g79_20 : Mu142 (P 20) = some (.inl (D.1 102, 52, .inl fp1)) := g79_20
                  have g79_21 : Mu142 (P 21) = some (.inl (D.1 102, 52, .inl fk1)) := g79_21
                  refine lv_iload hx hb dd_MO_isTopic_142 (lv_at hl 4 rfl) ?_
                  refine hi_if_lt (tgt := 374) hx hb dd_MO_isTopic_144 (by decide) (fun c80 => ?_) (fun c80 => ?_)
                  · refine lv_aload_n hx hb dd_MO_isTopic_374 rfl (lv_at hl 0 rfl) ?_
                    refine hm_get (ci := 6) (C := rn_MO) (T := ft_MO) (N := 22) hx hb hts fi_MO hown hE.K hP g79_0 rfl 19 (by decide) (hts _ tw_1005) (fun _ h9 => h9) rfl dd_MO_isTopic_375 ?_
                    refine lv_iconst (v := nI 0) hx hb dd_MO_isTopic_378 (by decide +kernel) ?_
                    refine hm_zald (j := 0) hx hb hE.K hP 1 g79_19 rfl (vp_in_nI (by omega) (by omega)) (nI_clamp (by omega)) dd_MO_isTopic_379 ?_
                    refine W.eq (g2 := F0 m 380 ls [.int (nI (bz (lk (wd_sp 46 b.2.2.2) (wd_sp 46 key))))]) (by rw [show lf 0 = _ from hlf 0 0 (by omega) (by omega) (by omega)] <;> rfl) ?_
                    exact hm_Ei (v := nI (bz (lk (wd_sp 46 b.2.2.2) (wd_sp 46 key)))) hx hb hr (bz_n _) hS hP (⟨by rw [lk_tp], lf, fp1, fk1, ⟨g79_0, g79_1, g79_3, g79_4, g79_5, g79_7, g79_8, g79_9, g79_10, g79_11, g79_14, g79_15, g79_16, g79_17, g79_19, g79_20, g79_21, po, pb⟩, hF142⟩) hlocks (by omega) (by omega) dd_MO_isTopic_380
                  · obtain rfl : y1 = nI (p9 - 1) := by
                      have h9 := hi_nI (x := y1) (by omega)
                      rw [h9, show y1.toInt.toNat = p9 - 1 by omega]
                    refine lv_iload_n hx hb dd_MO_isTopic_147 rfl (lv_at hl 3 rfl) ?_
                    refine lv_istore (lv' := [(5, .int (nI w2)), (0, .ref (P 0)), (1, .int (nI k9)), (2, .int (nI w)), (3, .int (nI w2)), (4, .int (nI (p9 - 1)))]) hx hb dd_MO_isTopic_148 hl (by decide) rfl (fun ls hl => ?_)
                    have lp150 : ∀ (n9 : Nat) (q9 : Nat) (y2 : Int32) (lg : Nat → Int32) (Mu150 : hm_M), (q9 ≤ w2 + 1) → (y2.toInt = (q9 : Int) - 1) → (∀ a c, ((p9 ≤ a ∧ a ≤ w) ∨ (a = p9 - 1 ∧ q9 ≤ c)) → c ≤ w2 → lg (51 * a + c) = nI (bz (lk ((wd_sp 46 b.2.2.2).drop a) ((wd_sp 46 key).drop c)))) → (mo_D B D P O Mu150 I (va_up (va_up (va_up A 19 lg) 20 fp1) 21 fk1) L) → (cz_F O M O Mu150 pm) → q9 < n9 → ∀ (H : Heap) (locs : List Loc) (ls : Array Slot), hm_P D cl_W Mu150 H → va_S (hm_A B) s.heap H locs → lv_has ls 9 [(0, .ref (P 0)), (1, .int (nI k9)), (2, .int (nI w)), (3, .int (nI w2)), (4, .int (nI (p9 - 1))), (5, .int y2)] → W p l e R s m ([.ref (P 0), .int (nI k9)] : List Value).toArray below meth c H locs (0) (0) (MQ below (hm_Ni B D (fun r M1 => r = nI (bz (tp_like b.2.2.2 key)) ∧ ∃ fa fb fc, mo_D B D P O M1 I (va_up (va_up (va_up A 19 fa) 20 fb) 21 fc) L ∧ cz_F O M O M1 pm)) ([.ref (P 0), .int (nI k9)] : List Value).toArray s (0) (0) (hm_A B)) (F0 m 150 ls []) := by
                      intro n9
                      induction n9 with
                      | zero => intro q9 y2 lg Mu150 hq hy2 hlg hd150 hF150 hm; exact absurd hm (Nat.not_lt_zero _)
                      | succ n9 ih150 =>
                        intro q9 y2 lg Mu150 hq hy2 hlg hd150 hF150 hm H locs ls hP hS hl
                        obtain ⟨g81_0, g81_1, g81_3, g81_4, g81_5, g81_7, g81_8, g81_9, g81_10, g81_11, g81_14, g81_15, g81_16, g81_17, g81_19, g81_20, g81_21, -, -⟩ := id hd150
                        have g81_1 : Mu150 (P 1) = some (.inl (D.1 102, 48, .inl (A 1))) := g81_1
                        have g81_3 : Mu150 (P 3) = some (.inl (D.1 102, 16, .inl (A 3))) := g81_3
                        have g81_4 : Mu150 (P 4) = some (.inl (D.1 102, 16, .inl (A 4))) := g81_4
                        have g81_5 : Mu150 (P 5) = some (.inl (D.1 101, 16, .inl (A 5))) := g81_5
                        have g81_7 : Mu150 (P 7) = some (.inl (D.1 102, 120, .inl (A 7))) := g81_7
                        have g81_8 : Mu150 (P 8) = some (.inl (D.1 102, 120, .inl (A 8))) := g81_8
                        have g81_9 : Mu150 (P 9) = some (.inl (D.1 102, 120, .inl (A 9))) := g81_9
                        have g81_10 : Mu150 (P 10) = some (.inl (D.1 102, 5760, .inl (A 10))) := g81_10
                        have g81_11 : Mu150 (P 11) = some (.inl (D.1 102, 48, .inl (A 11))) := g81_11
                        have g81_16 : Mu150 (P 16) = some (.inl (D.1 101, 16, .inl (A 16))) := g81_16
                        have g81_17 : Mu150 (P 17) = some (.inl (D.1 101, 16, .inl (A 17))) := g81_17
                        have g81_19 : Mu150 (P 19) = some (.inl (D.1 101, 2601, .inl lg)) := g81_19
                        have g81_20 : Mu150 (P 20) = some (.inl (D.1 102, 52, .inl fp1)) := g81_20
                        have g81_21 : Mu150 (P 21) = some (.inl (D.1 102, 52, .inl fk1)) := g81_21
                        refine lv_iload hx hb dd_MO_isTopic_150 (lv_at hl 5 rfl) ?_
                        refine hi_if_lt (tgt := 368) hx hb dd_MO_isTopic_152 (by decide) (fun c82 => ?_) (fun c82 => ?_)
                        · obtain ⟨x83, ex83⟩ : ∃ y : Int32, y = nI (p9 - 1) + (-1) := ⟨_, rfl⟩
                          refine lv_iinc (v := x83) (lv' := [(4, .int x83), (0, .ref (P 0)), (1, .int (nI k9)), (2, .int (nI w)), (3, .int (nI w2)), (5, .int y2)]) hx hb dd_MO_isTopic_368 hl (k := 4) rfl (by rw [ex83]; rfl) (by decide) rfl (fun ls hl => ?_)
                          refine lv_goto (tgt := 142) hx hb dd_MO_isTopic_371 (by decide) ?_
                          exact ih142 (p9 - 1) x83 lg Mu150 (by omega) (by rw [ex83, hi_add (by rw [nI_toInt (by omega)]; show _ ≤ _ + (-1 : Int); omega) (by rw [nI_toInt (by omega)]; show _ + (-1 : Int) < _; omega), nI_toInt (by omega)]; show _ + (-1 : Int) = _; omega) (fun a c h7 h8 h9 => hlg a c (by omega) h9) (⟨g81_0, g81_1, g81_3, g81_4, g81_5, g81_7, g81_8, g81_9, g81_10, g81_11, g81_14, g81_15, g81_16, g81_17, g81_19, g81_20, g81_21, po, pb⟩) (hF150) (by omega) _ _ _ hP hS (lv_sub hl [1, 2, 3, 4, 0] rfl)
                        · obtain rfl : y2 = nI (q9 - 1) := by
                            have h9 := hi_nI (x := y2) (by omega)
                            rw [h9, show y2.toInt.toNat = q9 - 1 by omega]
                          obtain ⟨ww, eww⟩ : ∃ z, z = (wd_sp 46 b.2.2.2).getD (p9 - 1) [] := ⟨_, rfl⟩
                          have J347 : ∀ (u : Bool), (lk ((wd_sp 46 b.2.2.2).drop (p9 - 1)) ((wd_sp 46 key).drop (q9 - 1)) = u) → ∀ (H : Heap) (locs : List Loc) (ls : Array Slot), hm_P D cl_W Mu150 H → va_S (hm_A B) s.heap H locs → lv_has ls 9 [(0, .ref (P 0)), (1, .int (nI k9)), (2, .int (nI w)), (3, .int (nI w2)), (4, .int (nI (p9 - 1))), (5, .int (nI (q9 - 1))), (6, .int (nI (bz u)))] → W p l e R s m ([.ref (P 0), .int (nI k9)] : List Value).toArray below meth c H locs (0) (0) (MQ below (hm_Ni B D (fun r M1 => r = nI (bz (tp_like b.2.2.2 key)) ∧ ∃ fa fb fc, mo_D B D P O M1 I (va_up (va_up (va_up A 19 fa) 20 fb) 21 fc) L ∧ cz_F O M O M1 pm)) ([.ref (P 0), .int (nI k9)] : List Value).toArray s (0) (0) (hm_A B)) (F0 m 347 ls []) := by
                            intro u hL H locs ls hP hS hl
                            refine lv_aload_n hx hb dd_MO_isTopic_347 rfl (lv_at hl 0 rfl) ?_
                            refine hm_get (ci := 6) (C := rn_MO) (T := ft_MO) (N := 22) hx hb hts fi_MO hown hE.K hP g81_0 rfl 19 (by decide) (hts _ tw_1005) (fun _ h9 => h9) rfl dd_MO_isTopic_348 ?_
                            refine lv_bipush (v := nI 51) hx hb dd_MO_isTopic_351 (by decide +kernel) ?_
                            refine lv_iload hx hb dd_MO_isTopic_353 (lv_at hl 4 rfl) ?_
                            refine hn_imul hx hb dd_MO_isTopic_355 ?_
                            refine lv_iload hx hb dd_MO_isTopic_356 (lv_at hl 5 rfl) ?_
                            refine hn_iadd hx hb dd_MO_isTopic_358 ?_
                            refine lv_iload hx hb dd_MO_isTopic_359 (lv_at hl 6 rfl) ?_
                            refine hm_zast (y := nI (bz u)) (j := (51 * (p9 - 1)) + (q9 - 1)) hx hb hE.K hP hS (pb 19 (by decide)) 1 g81_19 rfl (vp_in_nI (by omega) (by omega)) (nI_clamp (by omega)) (bz_vn u) dd_MO_isTopic_361 (fun H locs hP hS => ?_)
                            obtain ⟨M84, eM84⟩ : ∃ z, z = hm_up Mu150 (P 19) (.inl (D.1 101, 2601, .inl (upd lg ((51 * (p9 - 1)) + (q9 - 1)) (nI (bz u))))) := ⟨_, rfl⟩
                            rw [← eM84] at hP
                            have f85 : M84 (P 0) = some (.inr (6, [.int (I 0), .ref (P 1), .int (I 2), .ref (P 3), .ref (P 4), .ref (P 5), .int (I 6), .ref (P 7), .ref (P 8), .ref (P 9), .ref (P 10), .ref (P 11), .int (I 12), .int (I 13), .ref (P 14), .ref (P 15), .ref (P 16), .ref (P 17), .int (I 18), .ref (P 19), .ref (P 20), .ref (P 21)])) := by rw [eM84]; exact hm_up_o (hm_neO (po 0 (by decide)) (po 19 (by decide)) (by decide)) g81_0
                            have f86 : M84 (P 1) = some (.inl (D.1 102, 48, .inl (A 1))) := by rw [eM84]; exact hm_up_o (hm_neO (po 1 (by decide)) (po 19 (by decide)) (by decide)) g81_1
                            have f87 : M84 (P 3) = some (.inl (D.1 102, 16, .inl (A 3))) := by rw [eM84]; exact hm_up_o (hm_neO (po 3 (by decide)) (po 19 (by decide)) (by decide)) g81_3
                            have f88 : M84 (P 4) = some (.inl (D.1 102, 16, .inl (A 4))) := by rw [eM84]; exact hm_up_o (hm_neO (po 4 (by decide)) (po 19 (by decide)) (by decide)) g81_4
                            have f89 : M84 (P 5) = some (.inl (D.1 101, 16, .inl (A 5))) := by rw [eM84]; exact hm_up_o (hm_neO (po 5 (by decide)) (po 19 (by decide)) (by decide)) g81_5
                            have f90 : M84 (P 7) = some (.inl (D.1 102, 120, .inl (A 7))) := by rw [eM84]; exact hm_up_o (hm_neO (po 7 (by decide)) (po 19 (by decide)) (by decide)) g81_7
                            have f91 : M84 (P 8) = some (.inl (D.1 102, 120, .inl (A 8))) := by rw [eM84]; exact hm_up_o (hm_neO (po 8 (by decide)) (po 19 (by decide)) (by decide)) g81_8
                            have f92 : M84 (P 9) = some (.inl (D.1 102, 120, .inl (A 9))) := by rw [eM84]; exact hm_up_o (hm_neO (po 9 (by decide)) (po 19 (by decide)) (by decide)) g81_9
                            have f93 : M84 (P 10) = some (.inl (D.1 102, 5760, .inl (A 10))) := by rw [eM84]; exact hm_up_o (hm_neO (po 10 (by decide)) (po 19 (by decide)) (by decide)) g81_10
                            have f94 : M84 (P 11) = some (.inl (D.1 102, 48, .inl (A 11))) := by rw [eM84]; exact hm_up_o (hm_neO (po 11 (by decide)) (po 19 (by decide)) (by decide)) g81_11
                            have f95 : M84 (P 14) = some (.inl (D.1 103, 6, .inr (.inl (L 14)))) := by rw [eM84]; exact hm_up_o (hm_neO (po 14 (by decide)) (po 19 (by decide)) (by decide)) g81_14
                            have f96 : M84 (P 15) = some (.inl (D.1 103, 6, .inr (.inl (L 15)))) := by rw [eM84]; exact hm_up_o (hm_neO (po 15 (by decide)) (po 19 (by decide)) (by decide)) g81_15
                            have f97 : M84 (P 16) = some (.inl (D.1 101, 16, .inl (A 16))) := by rw [eM84]; exact hm_up_o (hm_neO (po 16 (by decide)) (po 19 (by decide)) (by decide)) g81_16
                            have f98 : M84 (P 17) = some (.inl (D.1 101, 16, .inl (A 17))) := by rw [eM84]; exact hm_up_o (hm_neO (po 17 (by decide)) (po 19 (by decide)) (by decide)) g81_17
                            have f99 : M84 (P 20) = some (.inl (D.1 102, 52, .inl fp1)) := by rw [eM84]; exact hm_up_o (hm_neO (po 20 (by decide)) (po 19 (by decide)) (by decide)) g81_20
                            have f100 : M84 (P 21) = some (.inl (D.1 102, 52, .inl fk1)) := by rw [eM84]; exact hm_up_o (hm_neO (po 21 (by decide)) (po 19 (by decide)) (by decide)) g81_21
                            have f101 : M84 (P 19) = some (.inl (D.1 101, 2601, .inl (upd lg ((51 * (p9 - 1)) + (q9 - 1)) (nI (bz u))))) := by rw [eM84]; exact hm_up_s
                            obtain ⟨x102, ex102⟩ : ∃ y : Int32, y = nI (q9 - 1) + (-1) := ⟨_, rfl⟩
                            refine lv_iinc (v := x102) (lv' := [(5, .int x102), (0, .ref (P 0)), (1, .int (nI k9)), (2, .int (nI w)), (3, .int (nI w2)), (4, .int (nI (p9 - 1))), (6, .int (nI (bz u)))]) hx hb dd_MO_isTopic_362 hl (k := 5) rfl (by rw [ex102]; rfl) (by decide) rfl (fun ls hl => ?_)
                            refine lv_goto (tgt := 150) hx hb dd_MO_isTopic_365 (by decide) ?_
                            have kk103 : hm_k Mu150 Mu150 [(P 19)] := hm_krf
                            have kk104 : hm_k Mu150 M84 [(P 19)] := hm_ku kk103 (Or.inr (by simp)) eM84
                            exact ih150 (q9 - 1) x102 (upd lg ((51 * (p9 - 1)) + (q9 - 1)) (nI (bz u))) M84 (by omega) (by rw [ex102, hi_add (by rw [nI_toInt (by omega)]; show _ ≤ _ + (-1 : Int); omega) (by rw [nI_toInt (by omega)]; show _ + (-1 : Int) < _; omega), nI_toInt (by omega)]; show _ + (-1 : Int) = _; omega) (fun a c h8 h9 => by
                                by_cases h7 : a = p9 - 1 ∧ c = q9 - 1
                                · rw [h7.1, h7.2, hL]; exact up_s
                                · exact (up_o (by omega)).trans (hlg a c (by omega) h9)) (⟨f85, f86, f87, f88, f89, f90, f91, f92, f93, f94, f95, f96, f97, f98, f101, f99, f100, po, pb⟩) ((hF150).trans (cz_F.k0 kk104 (hm_a1 ⟨by rw [po 19 (by decide)]; unfold pm; omega, _, f101⟩))) (by omega) _ _ _ hP hS (lv_sub hl [1, 2, 3, 4, 5, 0] rfl)
                          have J257 : ∀ (sg : Nat) (nx : Bool), (sg < 128) → (sg = 35 ↔ ww = [35]) → (sg = 42 ↔ ww = [42]) → (nx = (decide (q9 - 1 < w2) && lk ((wd_sp 46 b.2.2.2).drop (p9 - 1 + 1)) ((wd_sp 46 key).drop (q9 - 1 + 1)))) → (p9 - 1 < w) → ((wd_sp 46 b.2.2.2)[p9 - 1]? = some ww) → ∀ (H : Heap) (locs : List Loc) (ls : Array Slot), hm_P D cl_W Mu150 H → va_S (hm_A B) s.heap H locs → lv_has ls 9 [(0, .ref (P 0)), (1, .int (nI k9)), (2, .int (nI w)), (3, .int (nI w2)), (4, .int (nI (p9 - 1))), (5, .int (nI (q9 - 1))), (7, .int (nI sg)), (8, .int (nI (bz nx)))] → W p l e R s m ([.ref (P 0), .int (nI k9)] : List Value).toArray below meth c H locs (0) (0) (MQ below (hm_Ni B D (fun r M1 => r = nI (bz (tp_like b.2.2.2 key)) ∧ ∃ fa fb fc, mo_D B D P O M1 I (va_up (va_up (va_up A 19 fa) 20 fb) 21 fc) L ∧ cz_F O M O M1 pm)) ([.ref (P 0), .int (nI k9)] : List Value).toArray s (0) (0) (hm_A B)) (F0 m 257 ls []) := by
                            intro sg nx hs1 hs2 hs3 hnx hiw hww H locs ls hP hS hl
                            refine lv_iload hx hb dd_MO_isTopic_257 (lv_at hl 6 rfl) ?_
                            refine lv_bipush (v := nI 35) hx hb dd_MO_isTopic_259 (by decide +kernel) ?_
                            refine hn_icmp_ne (tgt := 316) hx hb (by omega) (by omega) dd_MO_isTopic_261 (by decide) (fun c105 => ?_) (fun c105 => ?_)
                            · refine lv_iload hx hb dd_MO_isTopic_316 (lv_at hl 7 rfl) ?_
                              refine hn_if_eq (tgt := 344) hx hb (bz_b _) dd_MO_isTopic_318 (by decide) (fun c106 => ?_) (fun c106 => ?_)
                              · have c318 := bz_f c106
                                refine lv_iconst (v := nI 0) hx hb dd_MO_isTopic_344 (by decide +kernel) ?_
                                refine lv_istore (lv' := [(6, .int (nI 0)), (0, .ref (P 0)), (1, .int (nI k9)), (2, .int (nI w)), (3, .int (nI w2)), (4, .int (nI (p9 - 1))), (5, .int (nI (q9 - 1))), (7, .int (nI sg)), (8, .int (nI (bz nx)))]) hx hb dd_MO_isTopic_345 hl (by decide) rfl (fun ls hl => ?_)
                                exact J347 false (by rw [lk_o hww (fun h9 => absurd (hs2.mpr h9) (by omega)) (by omega), hsk1.1, ← Bool.and_assoc, ← hnx, c318]; rfl) _ _ _ hP hS (lv_sub hl [1, 2, 3, 4, 5, 6, 0] rfl)
                              · have c318 := bz_t c106
                                refine lv_iload hx hb dd_MO_isTopic_321 (lv_at hl 6 rfl) ?_
                                refine lv_bipush (v := nI 42) hx hb dd_MO_isTopic_323 (by decide +kernel) ?_
                                refine hn_icmp_eq (tgt := 340) hx hb (by omega) (by omega) dd_MO_isTopic_325 (by decide) (fun c107 => ?_) (fun c107 => ?_)
                                · refine lv_iconst (v := nI 1) hx hb dd_MO_isTopic_340 (by decide +kernel) ?_
                                  refine lv_goto (tgt := 345) hx hb dd_MO_isTopic_341 (by decide) ?_
                                  refine lv_istore (lv' := [(6, .int (nI 1)), (0, .ref (P 0)), (1, .int (nI k9)), (2, .int (nI w)), (3, .int (nI w2)), (4, .int (nI (p9 - 1))), (5, .int (nI (q9 - 1))), (7, .int (nI sg)), (8, .int (nI (bz nx)))]) hx hb dd_MO_isTopic_345 hl (by decide) rfl (fun ls hl => ?_)
                                  exact J347 true (by rw [lk_o hww (fun h9 => absurd (hs2.mpr h9) (by omega)) (by omega), hsk1.1, ← Bool.and_assoc, ← hnx, c318, decide_eq_true (hs3.mp (by omega))]; rfl) _ _ _ hP hS (lv_sub hl [1, 2, 3, 4, 5, 6, 0] rfl)
                                · refine lv_aload_n hx hb dd_MO_isTopic_328 rfl (lv_at hl 0 rfl) ?_
                                  refine lv_iload_n hx hb dd_MO_isTopic_329 rfl (lv_at hl 1 rfl) ?_
                                  refine lv_iload hx hb dd_MO_isTopic_330 (lv_at hl 4 rfl) ?_
                                  refine lv_iload hx hb dd_MO_isTopic_332 (lv_at hl 5 rfl) ?_
                                  have hnx2 := Bool.and_eq_true_iff.mp (hnx.symm.trans c318)
                                  have hjw := of_decide_eq_true hnx2.1
                                  have hd108 : mo_D B D P O Mu150 I (va_up (va_up (va_up A 19 lg) 20 fp1) 21 fk1) L := ⟨g81_0, g81_1, g81_3, g81_4, g81_5, g81_7, g81_8, g81_9, g81_10, g81_11, g81_14, g81_15, g81_16, g81_17, g81_19, g81_20, g81_21, po, pb⟩
                                  refine hm_ci hS (hm_rV 3 (As := [.int (nI k9), .int (nI (p9 - 1)), .int (nI (q9 - 1))]) (rest := []) ⟨hx, hb, hml, hown, hts⟩ hE hS hP (kc_MO_isWord l B D G Mu150 P O I (va_up (va_up (va_up A 19 lg) 20 fp1) 21 fk1) L hd108 bs hB key hK k9 b hb1 sp1 sk1 w w2 hsp1 hsk1 (fun j hj => hfp1 j (by omega)) (fun j hj => hfk1 j (by omega)) (p9 - 1) (q9 - 1) hiw hjw) rfl g81_0 tw_1173 tw_1170 tw_1172 tw_33 tw_46 (by decide +kernel) rfl rfl ⟨by show 0 + 1 ≤ R.frames; omega, by show 8 + (7 + 11) + 0 ≤ R.locals; omega⟩ rfl hl.1 rfl (Nat.le_of_ble_eq_true rfl) dd_MO_isTopic_334 ⟨by omega, by omega⟩) (fun r109 M110 H locs hw111 hP hS => ?_)
                                  refine W.widen (k := 0) (n := 0) (by omega) (by omega) ?_
                                  obtain ⟨hrM110, eM110⟩ := hw111
                                  rw [eM110] at hP
                                  obtain rfl : r109 = nI (bz (decide ((wd_sp 46 b.2.2.2).getD (p9 - 1) [] = (wd_sp 46 key).getD (q9 - 1) []))) := hrM110
                                  refine hn_if_eq (tgt := 344) hx hb (bz_b _) dd_MO_isTopic_337 (by decide) (fun c112 => ?_) (fun c112 => ?_)
                                  · have c337 := bz_f c112
                                    refine lv_iconst (v := nI 0) hx hb dd_MO_isTopic_344 (by decide +kernel) ?_
                                    refine lv_istore (lv' := [(6, .int (nI 0)), (0, .ref (P 0)), (1, .int (nI k9)), (2, .int (nI w)), (3, .int (nI w2)), (4, .int (nI (p9 - 1))), (5, .int (nI (q9 - 1))), (7, .int (nI sg)), (8, .int (nI (bz nx)))]) hx hb dd_MO_isTopic_345 hl (by decide) rfl (fun ls hl => ?_)
                                    exact J347 false (by rw [lk_o hww (fun h9 => absurd (hs2.mpr h9) (by omega)) (by omega), decide_eq_false (fun h9 => absurd (hs3.mpr h9) (by omega)), eww, c337]; simp) _ _ _ hP hS (lv_sub hl [1, 2, 3, 4, 5, 6, 0] rfl)
                                  · have c337 := bz_t c112
                                    refine lv_iconst (v := nI 1) hx hb dd_MO_isTopic_340 (by decide +kernel) ?_
                                    refine lv_goto (tgt := 345) hx hb dd_MO_isTopic_341 (by decide) ?_
                                    refine lv_istore (lv' := [(6, .int (nI 1)), (0, .ref (P 0)), (1, .int (nI k9)), (2, .int (nI w)), (3, .int (nI w2)), (4, .int (nI (p9 - 1))), (5, .int (nI (q9 - 1))), (7, .int (nI sg)), (8, .int (nI (bz nx)))]) hx hb dd_MO_isTopic_345 hl (by decide) rfl (fun ls hl => ?_)
                                    exact J347 true (by rw [lk_o hww (fun h9 => absurd (hs2.mpr h9) (by omega)) (by omega), hsk1.1, ← Bool.and_assoc, ← hnx, c318, eww, c337]; simp) _ _ _ hP hS (lv_sub hl [1, 2, 3, 4, 5, 6, 0] rfl)
                            · refine lv_aload_n hx hb dd_MO_isTopic_264 rfl (lv_at hl 0 rfl) ?_
                              refine hm_get (ci := 6) (C := rn_MO) (T := ft_MO) (N := 22) hx hb hts fi_MO hown hE.K hP g81_0 rfl 19 (by decide) (hts _ tw_1005) (fun _ h9 => h9) rfl dd_MO_isTopic_265 ?_
                              refine lv_bipush (v := nI 51) hx hb dd_MO_isTopic_268 (by decide +kernel) ?_
                              refine lv_iload hx hb dd_MO_isTopic_270 (lv_at hl 4 rfl) ?_
                              refine lv_iconst (v := nI 1) hx hb dd_MO_isTopic_272 (by decide +kernel) ?_
                              refine hn_iadd hx hb dd_MO_isTopic_273 ?_
                              refine hn_imul hx hb dd_MO_isTopic_274 ?_
                              refine lv_iload hx hb dd_MO_isTopic_275 (lv_at hl 5 rfl) ?_
                              refine hn_iadd hx hb dd_MO_isTopic_277 ?_
                              refine hm_zald (j := (51 * ((p9 - 1) + 1)) + (q9 - 1)) hx hb hE.K hP 1 g81_19 rfl (vp_in_nI (by omega) (by omega)) (nI_clamp (by omega)) dd_MO_isTopic_278 ?_
                              refine W.eq (g2 := F0 m 279 ls [.int (nI (bz (lk ((wd_sp 46 b.2.2.2).drop (p9 - 1 + 1)) ((wd_sp 46 key).drop (q9 - 1)))))]) (by rw [show lg ((51 * ((p9 - 1) + 1)) + (q9 - 1)) = _ from hlg (p9 - 1 + 1) (q9 - 1) (by omega) (by omega)]) ?_
                              refine hn_if_ne (tgt := 306) hx hb (bz_b _) dd_MO_isTopic_279 (by decide) (fun c113 => ?_) (fun c113 => ?_)
                              · have c279 := bz_t c113
                                refine lv_iconst (v := nI 1) hx hb dd_MO_isTopic_306 (by decide +kernel) ?_
                                refine lv_goto (tgt := 311) hx hb dd_MO_isTopic_307 (by decide) ?_
                                refine lv_istore (lv' := [(6, .int (nI 1)), (0, .ref (P 0)), (1, .int (nI k9)), (2, .int (nI w)), (3, .int (nI w2)), (4, .int (nI (p9 - 1))), (5, .int (nI (q9 - 1))), (7, .int (nI sg)), (8, .int (nI (bz nx)))]) hx hb dd_MO_isTopic_311 hl (by decide) rfl (fun ls hl => ?_)
                                refine lv_goto (tgt := 347) hx hb dd_MO_isTopic_313 (by decide) ?_
                                exact J347 true (by rw [lk_h (by rw [hww, hs2.mp (by omega)]) (by omega), c279]; rfl) _ _ _ hP hS (lv_sub hl [1, 2, 3, 4, 5, 6, 0] rfl)
                              · have c279 := bz_f c113
                                refine lv_iload hx hb dd_MO_isTopic_282 (lv_at hl 5 rfl) ?_
                                refine lv_iload_n hx hb dd_MO_isTopic_284 rfl (lv_at hl 3 rfl) ?_
                                refine hn_icmp_ge (tgt := 310) hx hb (by omega) (by omega) dd_MO_isTopic_285 (by decide) (fun c114 => ?_) (fun c114 => ?_)
                                · refine lv_iconst (v := nI 0) hx hb dd_MO_isTopic_310 (by decide +kernel) ?_
                                  refine lv_istore (lv' := [(6, .int (nI 0)), (0, .ref (P 0)), (1, .int (nI k9)), (2, .int (nI w)), (3, .int (nI w2)), (4, .int (nI (p9 - 1))), (5, .int (nI (q9 - 1))), (7, .int (nI sg)), (8, .int (nI (bz nx)))]) hx hb dd_MO_isTopic_311 hl (by decide) rfl (fun ls hl => ?_)
                                  refine lv_goto (tgt := 347) hx hb dd_MO_isTopic_313 (by decide) ?_
                                  exact J347 false (by rw [lk_h (by rw [hww, hs2.mp (by omega)]) (by omega), c279, decide_eq_false (by rw [hsk1.1]; omega)]; rfl) _ _ _ hP hS (lv_sub hl [1, 2, 3, 4, 5, 6, 0] rfl)
                                · refine lv_aload_n hx hb dd_MO_isTopic_288 rfl (lv_at hl 0 rfl) ?_
                                  refine hm_get (ci := 6) (C := rn_MO) (T := ft_MO) (N := 22) hx hb hts fi_MO hown hE.K hP g81_0 rfl 19 (by decide) (hts _ tw_1005) (fun _ h9 => h9) rfl dd_MO_isTopic_289 ?_
                                  refine lv_bipush (v := nI 51) hx hb dd_MO_isTopic_292 (by decide +kernel) ?_
                                  refine lv_iload hx hb dd_MO_isTopic_294 (lv_at hl 4 rfl) ?_
                                  refine hn_imul hx hb dd_MO_isTopic_296 ?_
                                  refine lv_iload hx hb dd_MO_isTopic_297 (lv_at hl 5 rfl) ?_
                                  refine hn_iadd hx hb dd_MO_isTopic_299 ?_
                                  refine lv_iconst (v := nI 1) hx hb dd_MO_isTopic_300 (by decide +kernel) ?_
                                  refine hn_iadd hx hb dd_MO_isTopic_301 ?_
                                  refine hm_zald (j := ((51 * (p9 - 1)) + (q9 - 1)) + 1) hx hb hE.K hP 1 g81_19 rfl (vp_in_nI (by omega) (by omega)) (nI_clamp (by omega)) dd_MO_isTopic_302 ?_
                                  refine W.eq (g2 := F0 m 303 ls [.int (nI (bz (lk ((wd_sp 46 b.2.2.2).drop (p9 - 1)) ((wd_sp 46 key).drop (q9 - 1 + 1)))))]) (by rw [show lg (((51 * (p9 - 1)) + (q9 - 1)) + 1) = _ from hlg (p9 - 1) (q9 - 1 + 1) (by omega) (by omega)]) ?_
                                  refine hn_if_eq (tgt := 310) hx hb (bz_b _) dd_MO_isTopic_303 (by decide) (fun c115 => ?_) (fun c115 => ?_)
                                  · have c303 := bz_f c115
                                    refine lv_iconst (v := nI 0) hx hb dd_MO_isTopic_310 (by decide +kernel) ?_
                                    refine lv_istore (lv' := [(6, .int (nI 0)), (0, .ref (P 0)), (1, .int (nI k9)), (2, .int (nI w)), (3, .int (nI w2)), (4, .int (nI (p9 - 1))), (5, .int (nI (q9 - 1))), (7, .int (nI sg)), (8, .int (nI (bz nx)))]) hx hb dd_MO_isTopic_311 hl (by decide) rfl (fun ls hl => ?_)
                                    refine lv_goto (tgt := 347) hx hb dd_MO_isTopic_313 (by decide) ?_
                                    exact J347 false (by rw [lk_h (by rw [hww, hs2.mp (by omega)]) (by omega), c279, c303, Bool.and_false]; rfl) _ _ _ hP hS (lv_sub hl [1, 2, 3, 4, 5, 6, 0] rfl)
                                  · have c303 := bz_t c115
                                    refine lv_iconst (v := nI 1) hx hb dd_MO_isTopic_306 (by decide +kernel) ?_
                                    refine lv_goto (tgt := 311) hx hb dd_MO_isTopic_307 (by decide) ?_
                                    refine lv_istore (lv' := [(6, .int (nI 1)), (0, .ref (P 0)), (1, .int (nI k9)), (2, .int (nI w)), (3, .int (nI w2)), (4, .int (nI (p9 - 1))), (5, .int (nI (q9 - 1))), (7, .int (nI sg)), (8, .int (nI (bz nx)))]) hx hb dd_MO_isTopic_311 hl (by decide) rfl (fun ls hl => ?_)
                                    refine lv_goto (tgt := 347) hx hb dd_MO_isTopic_313 (by decide) ?_
                                    exact J347 true (by rw [lk_h (by rw [hww, hs2.mp (by omega)]) (by omega), c303, decide_eq_true (by rw [hsk1.1]; omega)]; simp) _ _ _ hP hS (lv_sub hl [1, 2, 3, 4, 5, 6, 0] rfl)
                          have J174 : ∀ (u1 : Bool), (w ≤ p9 - 1 → u1 = decide (q9 - 1 = w2)) → ∀ (H : Heap) (locs : List Loc) (ls : Array Slot), hm_P D cl_W Mu150 H → va_S (hm_A B) s.heap H locs → lv_has ls 9 [(0, .ref (P 0)), (1, .int (nI k9)), (2, .int (nI w)), (3, .int (nI w2)), (4, .int (nI (p9 - 1))), (5, .int (nI (q9 - 1))), (6, .int (nI (bz u1)))] → W p l e R s m ([.ref (P 0), .int (nI k9)] : List Value).toArray below meth c H locs (0) (0) (MQ below (hm_Ni B D (fun r M1 => r = nI (bz (tp_like b.2.2.2 key)) ∧ ∃ fa fb fc, mo_D B D P O M1 I (va_up (va_up (va_up A 19 fa) 20 fb) 21 fc) L ∧ cz_F O M O M1 pm)) ([.ref (P 0), .int (nI k9)] : List Value).toArray s (0) (0) (hm_A B)) (F0 m 174 ls []) := by
                            intro u1 hu1 H locs ls hP hS hl
                            refine lv_iload hx hb dd_MO_isTopic_174 (lv_at hl 4 rfl) ?_
                            refine lv_iload_n hx hb dd_MO_isTopic_176 rfl (lv_at hl 2 rfl) ?_
                            refine hn_icmp_ge (tgt := 347) hx hb (by omega) (by omega) dd_MO_isTopic_177 (by decide) (fun c116 => ?_) (fun c116 => ?_)
                            · exact J347 u1 (by rw [lk_e (by omega) (by omega), hu1 (by omega), hsk1.1]) _ _ _ hP hS (lv_sub hl [0, 1, 2, 3, 4, 5, 6] rfl)
                            · obtain ⟨hwa, hwb, hww⟩ := hsp1.2.2 (p9 - 1) (by omega)
                              have hwe : ww = tx_sl b.2.2.2 (sp1 (p9 - 1)) (sp1 (p9 - 1 + 1) - 1) := by rw [eww, List.getD_eq_getElem?_getD, hww]; rfl
                              rw [← hwe] at hww
                              have hwb : sp1 (p9 - 1 + 1) - 1 ≤ b.2.2.2.length := by omega
                              have hbl3 := tx_lt bt4 (sp1 (p9 - 1))
                              refine lv_aload_n hx hb dd_MO_isTopic_180 rfl (lv_at hl 0 rfl) ?_
                              refine hm_get (ci := 6) (C := rn_MO) (T := ft_MO) (N := 22) hx hb hts fi_MO hown hE.K hP g81_0 rfl 20 (by decide) (hts _ tw_1006) (fun _ h9 => h9) rfl dd_MO_isTopic_181 ?_
                              refine lv_iload hx hb dd_MO_isTopic_184 (lv_at hl 4 rfl) ?_
                              refine lv_iconst (v := nI 1) hx hb dd_MO_isTopic_186 (by decide +kernel) ?_
                              refine hn_iadd hx hb dd_MO_isTopic_187 ?_
                              refine hm_iald (j := (p9 - 1) + 1) hx hb hE.K hP 2 g81_20 rfl (vp_in_nI (by omega) (by omega)) (nI_clamp (by omega)) dd_MO_isTopic_188 ?_
                              refine W.eq (g2 := F0 m 189 ls [.int (nI (sp1 ((p9 - 1) + 1)))]) (by rw [hfp1 ((p9 - 1) + 1) (by omega)]) ?_
                              refine lv_aload_n hx hb dd_MO_isTopic_189 rfl (lv_at hl 0 rfl) ?_
                              refine hm_get (ci := 6) (C := rn_MO) (T := ft_MO) (N := 22) hx hb hts fi_MO hown hE.K hP g81_0 rfl 20 (by decide) (hts _ tw_1006) (fun _ h9 => h9) rfl dd_MO_isTopic_190 ?_
                              refine lv_iload hx hb dd_MO_isTopic_193 (lv_at hl 4 rfl) ?_
                              refine hm_iald (j := p9 - 1) hx hb hE.K hP 2 g81_20 rfl (vp_in_nI (by omega) (by omega)) (nI_clamp (by omega)) dd_MO_isTopic_195 ?_
                              refine W.eq (g2 := F0 m 196 ls [.int (nI (sp1 (p9 - 1))), .int (nI (sp1 ((p9 - 1) + 1)))]) (by rw [hfp1 (p9 - 1) (by omega)]) ?_
                              refine hn_isub hx hb (by omega) dd_MO_isTopic_196 ?_
                              refine lv_iconst (v := nI 2) hx hb dd_MO_isTopic_197 (by decide +kernel) ?_
                              refine hn_icmp_ne (tgt := 221) hx hb (by omega) (by omega) dd_MO_isTopic_198 (by decide) (fun c117 => ?_) (fun c117 => ?_)
                              · have c198 := c117
                                refine lv_iconst (v := nI 0) hx hb dd_MO_isTopic_221 (by decide +kernel) ?_
                                refine lv_istore (lv' := [(7, .int (nI 0)), (0, .ref (P 0)), (1, .int (nI k9)), (2, .int (nI w)), (3, .int (nI w2)), (4, .int (nI (p9 - 1))), (5, .int (nI (q9 - 1))), (6, .int (nI (bz u1)))]) hx hb dd_MO_isTopic_222 hl (by decide) rfl (fun ls hl => ?_)
                                refine lv_iload hx hb dd_MO_isTopic_224 (lv_at hl 6 rfl) ?_
                                refine lv_iload_n hx hb dd_MO_isTopic_226 rfl (lv_at hl 4 rfl) ?_
                                refine hn_icmp_ge (tgt := 254) hx hb (by omega) (by omega) dd_MO_isTopic_227 (by decide) (fun c118 => ?_) (fun c118 => ?_)
                                · refine lv_iconst (v := nI 0) hx hb dd_MO_isTopic_254 (by decide +kernel) ?_
                                  have hnx : false = (decide (q9 - 1 < w2) && lk ((wd_sp 46 b.2.2.2).drop (p9 - 1 + 1)) ((wd_sp 46 key).drop (q9 - 1 + 1))) := by rw [decide_eq_false (by omega)]; rfl
                                  refine lv_istore (lv' := [(8, .int (nI 0)), (7, .int (nI 0)), (0, .ref (P 0)), (1, .int (nI k9)), (2, .int (nI w)), (3, .int (nI w2)), (4, .int (nI (p9 - 1))), (5, .int (nI (q9 - 1))), (6, .int (nI (bz u1)))]) hx hb dd_MO_isTopic_255 hl (by decide) rfl (fun ls hl => ?_)
                                  exact J257 0 false (by decide) (⟨fun h9 => absurd h9 (by decide), fun h9 => absurd ((w_one hwa hwb).mp (hwe.symm.trans h9)).1 c198⟩) (⟨fun h9 => absurd h9 (by decide), fun h9 => absurd ((w_one hwa hwb).mp (hwe.symm.trans h9)).1 c198⟩) (hnx) (by omega) (hww) _ _ _ hP hS (lv_sub hl [2, 3, 4, 5, 6, 7, 1, 0] rfl)
                                · refine lv_aload_n hx hb dd_MO_isTopic_230 rfl (lv_at hl 1 rfl) ?_
                                  refine hm_get (ci := 6) (C := rn_MO) (T := ft_MO) (N := 22) hx hb hts fi_MO hown hE.K hP g81_0 rfl 19 (by decide) (hts _ tw_1005) (fun _ h9 => h9) rfl dd_MO_isTopic_231 ?_
                                  refine lv_bipush (v := nI 51) hx hb dd_MO_isTopic_234 (by decide +kernel) ?_
                                  refine lv_iload hx hb dd_MO_isTopic_236 (lv_at hl 5 rfl) ?_
                                  refine lv_iconst (v := nI 1) hx hb dd_MO_isTopic_238 (by decide +kernel) ?_
                                  refine hn_iadd hx hb dd_MO_isTopic_239 ?_
                                  refine hn_imul hx hb dd_MO_isTopic_240 ?_
                                  refine lv_iload hx hb dd_MO_isTopic_241 (lv_at hl 6 rfl) ?_
                                  refine hn_iadd hx hb dd_MO_isTopic_243 ?_
                                  refine lv_iconst (v := nI 1) hx hb dd_MO_isTopic_244 (by decide +kernel) ?_
                                  refine hn_iadd hx hb dd_MO_isTopic_245 ?_
                                  refine hm_zald (j := ((51 * ((p9 - 1) + 1)) + (q9 - 1)) + 1) hx hb hE.K hP 1 g81_19 rfl (vp_in_nI (by omega) (by omega)) (nI_clamp (by omega)) dd_MO_isTopic_246 ?_
                                  refine W.eq (g2 := F0 m 247 ls [.int (nI (bz (lk ((wd_sp 46 b.2.2.2).drop (p9 - 1 + 1)) ((wd_sp 46 key).drop (q9 - 1 + 1)))))]) (by rw [show lg (((51 * ((p9 - 1) + 1)) + (q9 - 1)) + 1) = _ from hlg (p9 - 1 + 1) (q9 - 1 + 1) (by omega) (by omega)]) ?_
                                  refine hn_if_eq (tgt := 254) hx hb (bz_b _) dd_MO_isTopic_247 (by decide) (fun c119 => ?_) (fun c119 => ?_)
                                  · have c247 := bz_f c119
                                    refine lv_iconst (v := nI 0) hx hb dd_MO_isTopic_254 (by decide +kernel) ?_
                                    have hnx : false = (decide (q9 - 1 < w2) && lk ((wd_sp 46 b.2.2.2).drop (p9 - 1 + 1)) ((wd_sp 46 key).drop (q9 - 1 + 1))) := by rw [c247, Bool.and_false]
                                    refine lv_istore (lv' := [(8, .int (nI 0)), (7, .int (nI 0)), (0, .ref (P 0)), (1, .int (nI k9)), (2, .int (nI w)), (3, .int (nI w2)), (4, .int (nI (p9 - 1))), (5, .int (nI (q9 - 1))), (6, .int (nI (bz u1)))]) hx hb dd_MO_isTopic_255 hl (by decide) rfl (fun ls hl => ?_)
                                    exact J257 0 false (by decide) (⟨fun h9 => absurd h9 (by decide), fun h9 => absurd ((w_one hwa hwb).mp (hwe.symm.trans h9)).1 c198⟩) (⟨fun h9 => absurd h9 (by decide), fun h9 => absurd ((w_one hwa hwb).mp (hwe.symm.trans h9)).1 c198⟩) (hnx) (by omega) (hww) _ _ _ hP hS (lv_sub hl [2, 3, 4, 5, 6, 7, 1, 0] rfl)
                                  · have c247 := bz_t c119
                                    refine lv_iconst (v := nI 1) hx hb dd_MO_isTopic_250 (by decide +kernel) ?_
                                    refine lv_goto (tgt := 255) hx hb dd_MO_isTopic_251 (by decide) ?_
                                    have hnx : true = (decide (q9 - 1 < w2) && lk ((wd_sp 46 b.2.2.2).drop (p9 - 1 + 1)) ((wd_sp 46 key).drop (q9 - 1 + 1))) := by rw [decide_eq_true (by omega), c247]; rfl
                                    refine lv_istore (lv' := [(8, .int (nI 1)), (7, .int (nI 0)), (0, .ref (P 0)), (1, .int (nI k9)), (2, .int (nI w)), (3, .int (nI w2)), (4, .int (nI (p9 - 1))), (5, .int (nI (q9 - 1))), (6, .int (nI (bz u1)))]) hx hb dd_MO_isTopic_255 hl (by decide) rfl (fun ls hl => ?_)
                                    exact J257 0 true (by decide) (⟨fun h9 => absurd h9 (by decide), fun h9 => absurd ((w_one hwa hwb).mp (hwe.symm.trans h9)).1 c198⟩) (⟨fun h9 => absurd h9 (by decide), fun h9 => absurd ((w_one hwa hwb).mp (hwe.symm.trans h9)).1 c198⟩) (hnx) (by omega) (hww) _ _ _ hP hS (lv_sub hl [2, 3, 4, 5, 6, 7, 1, 0] rfl)
                              · have c198 := c117
                                refine lv_aload_n hx hb dd_MO_isTopic_201 rfl (lv_at hl 0 rfl) ?_
                                refine hm_get (ci := 6) (C := rn_MO) (T := ft_MO) (N := 22) hx hb hts fi_MO hown hE.K hP g81_0 rfl 10 (by decide) (hts _ tw_996) (fun _ h9 => h9) rfl dd_MO_isTopic_202 ?_
                                refine lv_bipush (v := nI 48) hx hb dd_MO_isTopic_205 (by decide +kernel) ?_
                                refine lv_iload_n hx hb dd_MO_isTopic_207 rfl (lv_at hl 1 rfl) ?_
                                refine hn_imul hx hb dd_MO_isTopic_208 ?_
                                refine lv_aload_n hx hb dd_MO_isTopic_209 rfl (lv_at hl 0 rfl) ?_
                                refine hm_get (ci := 6) (C := rn_MO) (T := ft_MO) (N := 22) hx hb hts fi_MO hown hE.K hP g81_0 rfl 20 (by decide) (hts _ tw_1006) (fun _ h9 => h9) rfl dd_MO_isTopic_210 ?_
                                refine lv_iload hx hb dd_MO_isTopic_213 (lv_at hl 4 rfl) ?_
                                refine hm_iald (j := p9 - 1) hx hb hE.K hP 2 g81_20 rfl (vp_in_nI (by omega) (by omega)) (nI_clamp (by omega)) dd_MO_isTopic_215 ?_
                                refine W.eq (g2 := F0 m 216 ls [.int (nI (sp1 (p9 - 1))), .int (nI (48 * k9)), .ref (P 10)]) (by rw [hfp1 (p9 - 1) (by omega)]) ?_
                                refine hn_iadd hx hb dd_MO_isTopic_216 ?_
                                refine hm_iald (j := (48 * k9) + (sp1 (p9 - 1))) hx hb hE.K hP 2 g81_10 rfl (vp_in_nI (by omega) (by omega)) (nI_clamp (by omega)) dd_MO_isTopic_217 ?_
                                refine W.eq (g2 := F0 m 218 ls [.int (nI (b.2.2.2.getD (sp1 (p9 - 1)) 0))]) (by rw [show A 10 ((48 * k9) + (sp1 (p9 - 1))) = _ from bt2 (sp1 (p9 - 1)) (by omega)]) ?_
                                refine lv_goto (tgt := 222) hx hb dd_MO_isTopic_218 (by decide) ?_
                                refine lv_istore (lv' := [(7, .int (nI (b.2.2.2.getD (sp1 (p9 - 1)) 0))), (0, .ref (P 0)), (1, .int (nI k9)), (2, .int (nI w)), (3, .int (nI w2)), (4, .int (nI (p9 - 1))), (5, .int (nI (q9 - 1))), (6, .int (nI (bz u1)))]) hx hb dd_MO_isTopic_222 hl (by decide) rfl (fun ls hl => ?_)
                                refine lv_iload hx hb dd_MO_isTopic_224 (lv_at hl 6 rfl) ?_
                                refine lv_iload_n hx hb dd_MO_isTopic_226 rfl (lv_at hl 4 rfl) ?_
                                refine hn_icmp_ge (tgt := 254) hx hb (by omega) (by omega) dd_MO_isTopic_227 (by decide) (fun c120 => ?_) (fun c120 => ?_)
                                · refine lv_iconst (v := nI 0) hx hb dd_MO_isTopic_254 (by decide +kernel) ?_
                                  have hnx : false = (decide (q9 - 1 < w2) && lk ((wd_sp 46 b.2.2.2).drop (p9 - 1 + 1)) ((wd_sp 46 key).drop (q9 - 1 + 1))) := by rw [decide_eq_false (by omega)]; rfl
                                  refine lv_istore (lv' := [(8, .int (nI 0)), (7, .int (nI (b.2.2.2.getD (sp1 (p9 - 1)) 0))), (0, .ref (P 0)), (1, .int (nI k9)), (2, .int (nI w)), (3, .int (nI w2)), (4, .int (nI (p9 - 1))), (5, .int (nI (q9 - 1))), (6, .int (nI (bz u1)))]) hx hb dd_MO_isTopic_255 hl (by decide) rfl (fun ls hl => ?_)
                                  exact J257 (b.2.2.2.getD (sp1 (p9 - 1)) 0) false (tx_lt bt4 _) (⟨fun h9 => hwe.trans ((w_one hwa hwb).mpr ⟨c198, h9⟩), fun h9 => ((w_one hwa hwb).mp (hwe.symm.trans h9)).2⟩) (⟨fun h9 => hwe.trans ((w_one hwa hwb).mpr ⟨c198, h9⟩), fun h9 => ((w_one hwa hwb).mp (hwe.symm.trans h9)).2⟩) (hnx) (by omega) (hww) _ _ _ hP hS (lv_sub hl [2, 3, 4, 5, 6, 7, 1, 0] rfl)
                                · refine lv_aload_n hx hb dd_MO_isTopic_230 rfl (lv_at hl 1 rfl) ?_
                                  refine hm_get (ci := 6) (C := rn_MO) (T := ft_MO) (N := 22) hx hb hts fi_MO hown hE.K hP g81_0 rfl 19 (by decide) (hts _ tw_1005) (fun _ h9 => h9) rfl dd_MO_isTopic_231 ?_
                                  refine lv_bipush (v := nI 51) hx hb dd_MO_isTopic_234 (by decide +kernel) ?_
                                  refine lv_iload hx hb dd_MO_isTopic_236 (lv_at hl 5 rfl) ?_
                                  refine lv_iconst (v := nI 1) hx hb dd_MO_isTopic_238 (by decide +kernel) ?_
                                  refine hn_iadd hx hb dd_MO_isTopic_239 ?_
                                  refine hn_imul hx hb dd_MO_isTopic_240 ?_
                                  refine lv_iload hx hb dd_MO_isTopic_241 (lv_at hl 6 rfl) ?_
                                  refine hn_iadd hx hb dd_MO_isTopic_243 ?_
                                  refine lv_iconst (v := nI 1) hx hb dd_MO_isTopic_244 (by decide +kernel) ?_
                                  refine hn_iadd hx hb dd_MO_isTopic_245 ?_
                                  refine hm_zald (j := ((51 * ((p9 - 1) + 1)) + (q9 - 1)) + 1) hx hb hE.K hP 1 g81_19 rfl (vp_in_nI (by omega) (by omega)) (nI_clamp (by omega)) dd_MO_isTopic_246 ?_
                                  refine W.eq (g2 := F0 m 247 ls [.int (nI (bz (lk ((wd_sp 46 b.2.2.2).drop (p9 - 1 + 1)) ((wd_sp 46 key).drop (q9 - 1 + 1)))))]) (by rw [show lg (((51 * ((p9 - 1) + 1)) + (q9 - 1)) + 1) = _ from hlg (p9 - 1 + 1) (q9 - 1 + 1) (by omega) (by omega)]) ?_
                                  refine hn_if_eq (tgt := 254) hx hb (bz_b _) dd_MO_isTopic_247 (by decide) (fun c121 => ?_) (fun c121 => ?_)
                                  · have c247 := bz_f c121
                                    refine lv_iconst (v := nI 0) hx hb dd_MO_isTopic_254 (by decide +kernel) ?_
                                    have hnx : false = (decide (q9 - 1 < w2) && lk ((wd_sp 46 b.2.2.2).drop (p9 - 1 + 1)) ((wd_sp 46 key).drop (q9 - 1 + 1))) := by rw [c247, Bool.and_false]
                                    refine lv_istore (lv' := [(8, .int (nI 0)), (7, .int (nI (b.2.2.2.getD (sp1 (p9 - 1)) 0))), (0, .ref (P 0)), (1, .int (nI k9)), (2, .int (nI w)), (3, .int (nI w2)), (4, .int (nI (p9 - 1))), (5, .int (nI (q9 - 1))), (6, .int (nI (bz u1)))]) hx hb dd_MO_isTopic_255 hl (by decide) rfl (fun ls hl => ?_)
                                    exact J257 (b.2.2.2.getD (sp1 (p9 - 1)) 0) false (tx_lt bt4 _) (⟨fun h9 => hwe.trans ((w_one hwa hwb).mpr ⟨c198, h9⟩), fun h9 => ((w_one hwa hwb).mp (hwe.symm.trans h9)).2⟩) (⟨fun h9 => hwe.trans ((w_one hwa hwb).mpr ⟨c198, h9⟩), fun h9 => ((w_one hwa hwb).mp (hwe.symm.trans h9)).2⟩) (hnx) (by omega) (hww) _ _ _ hP hS (lv_sub hl [2, 3, 4, 5, 6, 7, 1, 0] rfl)
                                  · have c247 := bz_t c121
                                    refine lv_iconst (v := nI 1) hx hb dd_MO_isTopic_250 (by decide +kernel) ?_
                                    refine lv_goto (tgt := 255) hx hb dd_MO_isTopic_251 (by decide) ?_
                                    have hnx : true = (decide (q9 - 1 < w2) && lk ((wd_sp 46 b.2.2.2).drop (p9 - 1 + 1)) ((wd_sp 46 key).drop (q9 - 1 + 1))) := by rw [decide_eq_true (by omega), c247]; rfl
                                    refine lv_istore (lv' := [(8, .int (nI 1)), (7, .int (nI (b.2.2.2.getD (sp1 (p9 - 1)) 0))), (0, .ref (P 0)), (1, .int (nI k9)), (2, .int (nI w)), (3, .int (nI w2)), (4, .int (nI (p9 - 1))), (5, .int (nI (q9 - 1))), (6, .int (nI (bz u1)))]) hx hb dd_MO_isTopic_255 hl (by decide) rfl (fun ls hl => ?_)
                                    exact J257 (b.2.2.2.getD (sp1 (p9 - 1)) 0) true (tx_lt bt4 _) (⟨fun h9 => hwe.trans ((w_one hwa hwb).mpr ⟨c198, h9⟩), fun h9 => ((w_one hwa hwb).mp (hwe.symm.trans h9)).2⟩) (⟨fun h9 => hwe.trans ((w_one hwa hwb).mpr ⟨c198, h9⟩), fun h9 => ((w_one hwa hwb).mp (hwe.symm.trans h9)).2⟩) (hnx) (by omega) (hww) _ _ _ hP hS (lv_sub hl [2, 3, 4, 5, 6, 7, 1, 0] rfl)
                          refine lv_iload hx hb dd_MO_isTopic_155 (lv_at hl 4 rfl) ?_
                          refine lv_iload_n hx hb dd_MO_isTopic_157 rfl (lv_at hl 2 rfl) ?_
                          refine hn_icmp_ne (tgt := 171) hx hb (by omega) (by omega) dd_MO_isTopic_158 (by decide) (fun c122 => ?_) (fun c122 => ?_)
                          · refine lv_iconst (v := nI 0) hx hb dd_MO_isTopic_171 (by decide +kernel) ?_
                            refine lv_istore (lv' := [(6, .int (nI 0)), (0, .ref (P 0)), (1, .int (nI k9)), (2, .int (nI w)), (3, .int (nI w2)), (4, .int (nI (p9 - 1))), (5, .int (nI (q9 - 1)))]) hx hb dd_MO_isTopic_172 hl (by decide) rfl (fun ls hl => ?_)
                            exact J174 false (fun _ => (decide_eq_false (by omega)).symm) _ _ _ hP hS (lv_sub hl [1, 2, 3, 4, 5, 6, 0] rfl)
                          · refine lv_iload hx hb dd_MO_isTopic_161 (lv_at hl 5 rfl) ?_
                            refine lv_iload_n hx hb dd_MO_isTopic_163 rfl (lv_at hl 3 rfl) ?_
                            refine hn_icmp_ne (tgt := 171) hx hb (by omega) (by omega) dd_MO_isTopic_164 (by decide) (fun c123 => ?_) (fun c123 => ?_)
                            · refine lv_iconst (v := nI 0) hx hb dd_MO_isTopic_171 (by decide +kernel) ?_
                              refine lv_istore (lv' := [(6, .int (nI 0)), (0, .ref (P 0)), (1, .int (nI k9)), (2, .int (nI w)), (3, .int (nI w2)), (4, .int (nI (p9 - 1))), (5, .int (nI (q9 - 1)))]) hx hb dd_MO_isTopic_172 hl (by decide) rfl (fun ls hl => ?_)
                              exact J174 false (fun _ => (decide_eq_false (by omega)).symm) _ _ _ hP hS (lv_sub hl [1, 2, 3, 4, 5, 6, 0] rfl)
                            · refine lv_iconst (v := nI 1) hx hb dd_MO_isTopic_167 (by decide +kernel) ?_
                              refine lv_goto (tgt := 172) hx hb dd_MO_isTopic_168 (by decide) ?_
                              refine lv_istore (lv' := [(6, .int (nI 1)), (0, .ref (P 0)), (1, .int (nI k9)), (2, .int (nI w)), (3, .int (nI w2)), (4, .int (nI (p9 - 1))), (5, .int (nI (q9 - 1)))]) hx hb dd_MO_isTopic_172 hl (by decide) rfl (fun ls hl => ?_)
                              exact J174 true (fun _ => (decide_eq_true (by omega)).symm) _ _ _ hP hS (lv_sub hl [1, 2, 3, 4, 5, 6, 0] rfl)
                    exact lp150 _ (w2 + 1) (nI w2) lf Mu142 (Nat.le_refl _) (by rw [nI_toInt (by omega)]; omega) (fun a c h8 h9 => hlf a c (by omega) (by omega) h9) (⟨g79_0, g79_1, g79_3, g79_4, g79_5, g79_7, g79_8, g79_9, g79_10, g79_11, g79_14, g79_15, g79_16, g79_17, g79_19, g79_20, g79_21, po, pb⟩) (hF142) (Nat.lt_succ_self _) _ _ _ hP hS (lv_sub hl [1, 2, 3, 4, 5, 0] rfl)
              have kk124 : hm_k Mu84 Mu84 [(P 21)] := hm_krf
              have kk125 : hm_k Mu84 M60 [(P 21)] := hm_ku kk124 (Or.inr (by simp)) eM60
              exact lp142 _ (w + 1) (nI w) (A 19) M60 (Nat.le_refl _) (by rw [nI_toInt (by omega)]; omega) (fun a c h7 h8 h9 => absurd h7 (by omega)) (⟨f61, f62, f63, f64, f65, f66, f67, f68, f69, f70, f71, f72, f73, f74, f75, f76, f78, po, pb⟩) ((hF84).trans (cz_F.k0 kk125 (hm_a1 ⟨by rw [po 21 (by decide)]; unfold pm; omega, _, f78⟩))) (Nat.lt_succ_self _) _ _ _ hP hS (lv_sub hl [1, 2, 3, 4, 0] rfl)
            · refine lv_aload_n hx hb dd_MO_isTopic_93 rfl (lv_at hl 0 rfl) ?_
              refine hm_get (ci := 6) (C := rn_MO) (T := ft_MO) (N := 22) hx hb hts fi_MO hown hE.K hP g58_0 rfl 11 (by decide) (hts _ tw_997) (fun _ h9 => h9) rfl dd_MO_isTopic_94 ?_
              refine lv_iload hx hb dd_MO_isTopic_97 (lv_at hl 4 rfl) ?_
              refine hm_iald (j := k2) hx hb hE.K hP 2 g58_11 rfl (vp_in_nI (by omega) (by omega)) (nI_clamp (by omega)) dd_MO_isTopic_99 ?_
              refine W.eq (g2 := F0 m 100 ls [.int (nI (key.getD k2 0))]) (by rw [ki2 k2 (by omega)]) ?_
              refine lv_bipush (v := nI 46) hx hb dd_MO_isTopic_100 (by decide +kernel) ?_
              refine hn_icmp_eq (tgt := 108) hx hb (by omega) (by omega) dd_MO_isTopic_102 (by decide) (fun c126 => ?_) (fun c126 => ?_)
              · have c46 := c126
                refine lv_aload_n hx hb dd_MO_isTopic_108 rfl (lv_at hl 0 rfl) ?_
                refine hm_get (ci := 6) (C := rn_MO) (T := ft_MO) (N := 22) hx hb hts fi_MO hown hE.K hP g58_0 rfl 21 (by decide) (hts _ tw_1007) (fun _ h9 => h9) rfl dd_MO_isTopic_109 ?_
                refine lv_iload_n hx hb dd_MO_isTopic_112 rfl (lv_at hl 3 rfl) ?_
                refine lv_iload hx hb dd_MO_isTopic_113 (lv_at hl 4 rfl) ?_
                refine lv_iconst (v := nI 1) hx hb dd_MO_isTopic_115 (by decide +kernel) ?_
                refine hn_iadd hx hb dd_MO_isTopic_116 ?_
                refine hm_iast (j := w2) hx hb hE.K hP hS (pb 21 (by decide)) 2 g58_21 rfl (vp_in_nI (by omega) (by omega)) (nI_clamp (by omega)) dd_MO_isTopic_117 (fun H locs hP hS => ?_)
                obtain ⟨M127, eM127⟩ : ∃ z, z = hm_up Mu84 (P 21) (.inl (D.1 102, 52, .inl (upd fk w2 (nI (k2 + 1))))) := ⟨_, rfl⟩
                rw [← eM127] at hP
                have f128 : M127 (P 0) = some (.inr (6, [.int (I 0), .ref (P 1), .int (I 2), .ref (P 3), .ref (P 4), .ref (P 5), .int (I 6), .ref (P 7), .ref (P 8), .ref (P 9), .ref (P 10), .ref (P 11), .int (I 12), .int (I 13), .ref (P 14), .ref (P 15), .ref (P 16), .ref (P 17), .int (I 18), .ref (P 19), .ref (P 20), .ref (P 21)])) := by rw [eM127]; exact hm_up_o (hm_neO (po 0 (by decide)) (po 21 (by decide)) (by decide)) g58_0
                have f129 : M127 (P 1) = some (.inl (D.1 102, 48, .inl (A 1))) := by rw [eM127]; exact hm_up_o (hm_neO (po 1 (by decide)) (po 21 (by decide)) (by decide)) g58_1
                have f130 : M127 (P 3) = some (.inl (D.1 102, 16, .inl (A 3))) := by rw [eM127]; exact hm_up_o (hm_neO (po 3 (by decide)) (po 21 (by decide)) (by decide)) g58_3
                have f131 : M127 (P 4) = some (.inl (D.1 102, 16, .inl (A 4))) := by rw [eM127]; exact hm_up_o (hm_neO (po 4 (by decide)) (po 21 (by decide)) (by decide)) g58_4
                have f132 : M127 (P 5) = some (.inl (D.1 101, 16, .inl (A 5))) := by rw [eM127]; exact hm_up_o (hm_neO (po 5 (by decide)) (po 21 (by decide)) (by decide)) g58_5
                have f133 : M127 (P 7) = some (.inl (D.1 102, 120, .inl (A 7))) := by rw [eM127]; exact hm_up_o (hm_neO (po 7 (by decide)) (po 21 (by decide)) (by decide)) g58_7
                have f134 : M127 (P 8) = some (.inl (D.1 102, 120, .inl (A 8))) := by rw [eM127]; exact hm_up_o (hm_neO (po 8 (by decide)) (po 21 (by decide)) (by decide)) g58_8
                have f135 : M127 (P 9) = some (.inl (D.1 102, 120, .inl (A 9))) := by rw [eM127]; exact hm_up_o (hm_neO (po 9 (by decide)) (po 21 (by decide)) (by decide)) g58_9
                have f136 : M127 (P 10) = some (.inl (D.1 102, 5760, .inl (A 10))) := by rw [eM127]; exact hm_up_o (hm_neO (po 10 (by decide)) (po 21 (by decide)) (by decide)) g58_10
                have f137 : M127 (P 11) = some (.inl (D.1 102, 48, .inl (A 11))) := by rw [eM127]; exact hm_up_o (hm_neO (po 11 (by decide)) (po 21 (by decide)) (by decide)) g58_11
                have f138 : M127 (P 14) = some (.inl (D.1 103, 6, .inr (.inl (L 14)))) := by rw [eM127]; exact hm_up_o (hm_neO (po 14 (by decide)) (po 21 (by decide)) (by decide)) g58_14
                have f139 : M127 (P 15) = some (.inl (D.1 103, 6, .inr (.inl (L 15)))) := by rw [eM127]; exact hm_up_o (hm_neO (po 15 (by decide)) (po 21 (by decide)) (by decide)) g58_15
                have f140 : M127 (P 16) = some (.inl (D.1 101, 16, .inl (A 16))) := by rw [eM127]; exact hm_up_o (hm_neO (po 16 (by decide)) (po 21 (by decide)) (by decide)) g58_16
                have f141 : M127 (P 17) = some (.inl (D.1 101, 16, .inl (A 17))) := by rw [eM127]; exact hm_up_o (hm_neO (po 17 (by decide)) (po 21 (by decide)) (by decide)) g58_17
                have f142 : M127 (P 19) = some (.inl (D.1 101, 2601, .inl (A 19))) := by rw [eM127]; exact hm_up_o (hm_neO (po 19 (by decide)) (po 21 (by decide)) (by decide)) g58_19
                have f143 : M127 (P 20) = some (.inl (D.1 102, 52, .inl fp1)) := by rw [eM127]; exact hm_up_o (hm_neO (po 20 (by decide)) (po 21 (by decide)) (by decide)) g58_20
                have f144 : M127 (P 21) = some (.inl (D.1 102, 52, .inl (upd fk w2 (nI (k2 + 1))))) := by rw [eM127]; exact hm_up_s
                refine lv_iinc (v := nI (w2 + 1)) (lv' := [(3, .int (nI (w2 + 1))), (0, .ref (P 0)), (1, .int (nI k9)), (2, .int (nI w)), (4, .int (nI k2))]) hx hb dd_MO_isTopic_118 hl (k := 3) rfl (nI_1 w2) (by decide) rfl (fun ls hl => ?_)
                refine lv_iinc (v := nI (k2 + 1)) (lv' := [(4, .int (nI (k2 + 1))), (3, .int (nI (w2 + 1))), (0, .ref (P 0)), (1, .int (nI k9)), (2, .int (nI w))]) hx hb dd_MO_isTopic_121 hl (k := 4) rfl (nI_1 k2) (by decide) rfl (fun ls hl => ?_)
                refine lv_goto (tgt := 84) hx hb dd_MO_isTopic_124 (by decide) ?_
                have kk145 : hm_k Mu84 Mu84 [(P 21)] := hm_krf
                have kk146 : hm_k Mu84 M127 [(P 21)] := hm_ku kk145 (Or.inr (by simp)) eM127
                exact ih84 (k2 + 1) (w2 + 1) (upd fk w2 (nI (k2 + 1))) (va_up sk w2 (k2 + 1)) M127 (sp_d hki (by omega) c46) (fp_up hfk) (⟨f128, f129, f130, f131, f132, f133, f134, f135, f136, f137, f138, f139, f140, f141, f142, f143, f144, po, pb⟩) ((hF84).trans (cz_F.k0 kk146 (hm_a1 ⟨by rw [po 21 (by decide)]; unfold pm; omega, _, f144⟩))) (by omega) _ _ _ hP hS (lv_sub hl [2, 3, 4, 1, 0] rfl)
              · have c46 := c126
                refine lv_goto (tgt := 121) hx hb dd_MO_isTopic_105 (by decide) ?_
                refine lv_iinc (v := nI (k2 + 1)) (lv' := [(4, .int (nI (k2 + 1))), (0, .ref (P 0)), (1, .int (nI k9)), (2, .int (nI w)), (3, .int (nI w2))]) hx hb dd_MO_isTopic_121 hl (k := 4) rfl (nI_1 k2) (by decide) rfl (fun ls hl => ?_)
                refine lv_goto (tgt := 84) hx hb dd_MO_isTopic_124 (by decide) ?_
                exact ih84 (k2 + 1) w2 fk sk Mu84 (sp_n hki (by omega) c46) (hfk) (⟨g58_0, g58_1, g58_3, g58_4, g58_5, g58_7, g58_8, g58_9, g58_10, g58_11, g58_14, g58_15, g58_16, g58_17, g58_19, g58_20, g58_21, po, pb⟩) (hF84) (by omega) _ _ _ hP hS (lv_sub hl [1, 2, 3, 4, 0] rfl)
        have kk147 : hm_k Mu11 Mu11 [(P 20), (P 21)] := hm_krf
        have kk148 : hm_k Mu11 M21 [(P 20), (P 21)] := hm_ku kk147 (Or.inr (by simp)) eM21
        have kk149 : hm_k Mu11 M39 [(P 20), (P 21)] := hm_ku kk148 (Or.inr (by simp)) eM39
        exact lp84 _ 0 1 (upd (A 21) 0 (nI 0)) (fun _ => 0) M39 (sp_0 _ _ rfl) (fun j hj => by rw [show j = 0 by omega]; rfl) (⟨f40, f41, f42, f43, f44, f45, f46, f47, f48, f49, f50, f51, f52, f53, f54, f57, f56, po, pb⟩) ((hF11).trans (cz_F.k0 kk149 (hm_a2 ⟨by rw [po 20 (by decide)]; unfold pm; omega, _, f57⟩ ⟨by rw [po 21 (by decide)]; unfold pm; omega, _, f56⟩))) (Nat.lt_succ_self _) _ _ _ hP hS (lv_sub hl [2, 3, 4, 1, 0] rfl)
      · refine lv_aload_n hx hb dd_MO_isTopic_21 rfl (lv_at hl 0 rfl) ?_
        refine hm_get (ci := 6) (C := rn_MO) (T := ft_MO) (N := 22) hx hb hts fi_MO hown hE.K hP g19_0 rfl 10 (by decide) (hts _ tw_996) (fun _ h9 => h9) rfl dd_MO_isTopic_22 ?_
        refine lv_bipush (v := nI 48) hx hb dd_MO_isTopic_25 (by decide +kernel) ?_
        refine lv_iload_n hx hb dd_MO_isTopic_27 rfl (lv_at hl 1 rfl) ?_
        refine hn_imul hx hb dd_MO_isTopic_28 ?_
        refine lv_iload_n hx hb dd_MO_isTopic_29 rfl (lv_at hl 3 rfl) ?_
        refine hn_iadd hx hb dd_MO_isTopic_30 ?_
        refine hm_iald (j := (48 * k9) + k) hx hb hE.K hP 2 g19_10 rfl (vp_in_nI (by omega) (by omega)) (nI_clamp (by omega)) dd_MO_isTopic_31 ?_
        refine W.eq (g2 := F0 m 32 ls [.int (nI (b.2.2.2.getD k 0))]) (by rw [show A 10 ((48 * k9) + k) = _ from bt2 k (by omega)]) ?_
        refine lv_bipush (v := nI 46) hx hb dd_MO_isTopic_32 (by decide +kernel) ?_
        refine hn_icmp_eq (tgt := 40) hx hb (by omega) (by omega) dd_MO_isTopic_34 (by decide) (fun c150 => ?_) (fun c150 => ?_)
        · have c46 := c150
          refine lv_aload_n hx hb dd_MO_isTopic_40 rfl (lv_at hl 0 rfl) ?_
          refine hm_get (ci := 6) (C := rn_MO) (T := ft_MO) (N := 22) hx hb hts fi_MO hown hE.K hP g19_0 rfl 20 (by decide) (hts _ tw_1006) (fun _ h9 => h9) rfl dd_MO_isTopic_41 ?_
          refine lv_iload_n hx hb dd_MO_isTopic_44 rfl (lv_at hl 2 rfl) ?_
          refine lv_iload_n hx hb dd_MO_isTopic_45 rfl (lv_at hl 3 rfl) ?_
          refine lv_iconst (v := nI 1) hx hb dd_MO_isTopic_46 (by decide +kernel) ?_
          refine hn_iadd hx hb dd_MO_isTopic_47 ?_
          refine hm_iast (j := w) hx hb hE.K hP hS (pb 20 (by decide)) 2 g19_20 rfl (vp_in_nI (by omega) (by omega)) (nI_clamp (by omega)) dd_MO_isTopic_48 (fun H locs hP hS => ?_)
          obtain ⟨M151, eM151⟩ : ∃ z, z = hm_up Mu11 (P 20) (.inl (D.1 102, 52, .inl (upd fp w (nI (k + 1))))) := ⟨_, rfl⟩
          rw [← eM151] at hP
          have f152 : M151 (P 0) = some (.inr (6, [.int (I 0), .ref (P 1), .int (I 2), .ref (P 3), .ref (P 4), .ref (P 5), .int (I 6), .ref (P 7), .ref (P 8), .ref (P 9), .ref (P 10), .ref (P 11), .int (I 12), .int (I 13), .ref (P 14), .ref (P 15), .ref (P 16), .ref (P 17), .int (I 18), .ref (P 19), .ref (P 20), .ref (P 21)])) := by rw [eM151]; exact hm_up_o (hm_neO (po 0 (by decide)) (po 20 (by decide)) (by decide)) g19_0
          have f153 : M151 (P 1) = some (.inl (D.1 102, 48, .inl (A 1))) := by rw [eM151]; exact hm_up_o (hm_neO (po 1 (by decide)) (po 20 (by decide)) (by decide)) g19_1
          have f154 : M151 (P 3) = some (.inl (D.1 102, 16, .inl (A 3))) := by rw [eM151]; exact hm_up_o (hm_neO (po 3 (by decide)) (po 20 (by decide)) (by decide)) g19_3
          have f155 : M151 (P 4) = some (.inl (D.1 102, 16, .inl (A 4))) := by rw [eM151]; exact hm_up_o (hm_neO (po 4 (by decide)) (po 20 (by decide)) (by decide)) g19_4
          have f156 : M151 (P 5) = some (.inl (D.1 101, 16, .inl (A 5))) := by rw [eM151]; exact hm_up_o (hm_neO (po 5 (by decide)) (po 20 (by decide)) (by decide)) g19_5
          have f157 : M151 (P 7) = some (.inl (D.1 102, 120, .inl (A 7))) := by rw [eM151]; exact hm_up_o (hm_neO (po 7 (by decide)) (po 20 (by decide)) (by decide)) g19_7
          have f158 : M151 (P 8) = some (.inl (D.1 102, 120, .inl (A 8))) := by rw [eM151]; exact hm_up_o (hm_neO (po 8 (by decide)) (po 20 (by decide)) (by decide)) g19_8
          have f159 : M151 (P 9) = some (.inl (D.1 102, 120, .inl (A 9))) := by rw [eM151]; exact hm_up_o (hm_neO (po 9 (by decide)) (po 20 (by decide)) (by decide)) g19_9
          have f160 : M151 (P 10) = some (.inl (D.1 102, 5760, .inl (A 10))) := by rw [eM151]; exact hm_up_o (hm_neO (po 10 (by decide)) (po 20 (by decide)) (by decide)) g19_10
          have f161 : M151 (P 11) = some (.inl (D.1 102, 48, .inl (A 11))) := by rw [eM151]; exact hm_up_o (hm_neO (po 11 (by decide)) (po 20 (by decide)) (by decide)) g19_11
          have f162 : M151 (P 14) = some (.inl (D.1 103, 6, .inr (.inl (L 14)))) := by rw [eM151]; exact hm_up_o (hm_neO (po 14 (by decide)) (po 20 (by decide)) (by decide)) g19_14
          have f163 : M151 (P 15) = some (.inl (D.1 103, 6, .inr (.inl (L 15)))) := by rw [eM151]; exact hm_up_o (hm_neO (po 15 (by decide)) (po 20 (by decide)) (by decide)) g19_15
          have f164 : M151 (P 16) = some (.inl (D.1 101, 16, .inl (A 16))) := by rw [eM151]; exact hm_up_o (hm_neO (po 16 (by decide)) (po 20 (by decide)) (by decide)) g19_16
          have f165 : M151 (P 17) = some (.inl (D.1 101, 16, .inl (A 17))) := by rw [eM151]; exact hm_up_o (hm_neO (po 17 (by decide)) (po 20 (by decide)) (by decide)) g19_17
          have f166 : M151 (P 19) = some (.inl (D.1 101, 2601, .inl (A 19))) := by rw [eM151]; exact hm_up_o (hm_neO (po 19 (by decide)) (po 20 (by decide)) (by decide)) g19_19
          have f167 : M151 (P 21) = some (.inl (D.1 102, 52, .inl (A 21))) := by rw [eM151]; exact hm_up_o (hm_neO (po 21 (by decide)) (po 20 (by decide)) (by decide)) g19_21
          have f168 : M151 (P 20) = some (.inl (D.1 102, 52, .inl (upd fp w (nI (k + 1))))) := by rw [eM151]; exact hm_up_s
          refine lv_iinc (v := nI (w + 1)) (lv' := [(2, .int (nI (w + 1))), (0, .ref (P 0)), (1, .int (nI k9)), (3, .int (nI k))]) hx hb dd_MO_isTopic_49 hl (k := 2) rfl (nI_1 w) (by decide) rfl (fun ls hl => ?_)
          refine lv_iinc (v := nI (k + 1)) (lv' := [(3, .int (nI (k + 1))), (2, .int (nI (w + 1))), (0, .ref (P 0)), (1, .int (nI k9))]) hx hb dd_MO_isTopic_52 hl (k := 3) rfl (nI_1 k) (by decide) rfl (fun ls hl => ?_)
          refine lv_goto (tgt := 11) hx hb dd_MO_isTopic_55 (by decide) ?_
          have kk169 : hm_k Mu11 Mu11 [(P 20)] := hm_krf
          have kk170 : hm_k Mu11 M151 [(P 20)] := hm_ku kk169 (Or.inr (by simp)) eM151
          exact ih11 (k + 1) (w + 1) (upd fp w (nI (k + 1))) (va_up sp w (k + 1)) M151 (sp_d hsi (by omega) c46) (fp_up hfi) (⟨f152, f153, f154, f155, f156, f157, f158, f159, f160, f161, f162, f163, f164, f165, f166, f168, f167, po, pb⟩) ((hF11).trans (cz_F.k0 kk170 (hm_a1 ⟨by rw [po 20 (by decide)]; unfold pm; omega, _, f168⟩))) (by omega) _ _ _ hP hS (lv_sub hl [2, 3, 1, 0] rfl)
        · have c46 := c150
          refine lv_goto (tgt := 52) hx hb dd_MO_isTopic_37 (by decide) ?_
          refine lv_iinc (v := nI (k + 1)) (lv' := [(3, .int (nI (k + 1))), (0, .ref (P 0)), (1, .int (nI k9)), (2, .int (nI w))]) hx hb dd_MO_isTopic_52 hl (k := 3) rfl (nI_1 k) (by decide) rfl (fun ls hl => ?_)
          refine lv_goto (tgt := 11) hx hb dd_MO_isTopic_55 (by decide) ?_
          exact ih11 (k + 1) w fp sp Mu11 (sp_n hsi (by omega) c46) (hfi) (⟨g19_0, g19_1, g19_3, g19_4, g19_5, g19_7, g19_8, g19_9, g19_10, g19_11, g19_14, g19_15, g19_16, g19_17, g19_19, g19_20, g19_21, po, pb⟩) (hF11) (by omega) _ _ _ hP hS (lv_sub hl [1, 2, 3, 0] rfl)
  have kk171 : hm_k M M [(P 20)] := hm_krf
  have kk172 : hm_k M M1 [(P 20)] := hm_ku kk171 (Or.inr (by simp)) eM1
  exact lp11 _ 0 1 (upd (A 20) 0 (nI 0)) (fun _ => 0) M1 (sp_0 _ _ rfl) (fun j hj => by rw [show j = 0 by omega]; rfl) (⟨f2, f3, f4, f5, f6, f7, f8, f9, f10, f11, f12, f13, f14, f15, f16, f18, f17, po, pb⟩) (cz_F.k0 kk172 (hm_a1 ⟨by rw [po 20 (by decide)]; unfold pm; omega, _, f18⟩)) (Nat.lt_succ_self _) _ _ _ hP hS (lv_sub hl [2, 3, 1, 0] rfl)
