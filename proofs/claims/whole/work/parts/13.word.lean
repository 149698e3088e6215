/-! words of texts, names, values -/
def bz (b : Bool) : Nat := if b then 1 else 0
theorem bz_b (b : Bool) : bz b < 2 ^ 31 := by cases b <;> decide
theorem bz_t {b : Bool} (h : 0 < bz b) : b = true := by cases b <;> first | rfl | (exact absurd h (by decide))
theorem bz_f {b : Bool} (h : bz b = 0) : b = false := by cases b <;> first | rfl | (exact absurd h (by decide))
theorem bz_n (b : Bool) : narrow .boolean (.int (nI (bz b))) = .int (nI (bz b)) := by cases b <;> rfl
theorem bz_fit (b : Bool) : fits .boolean (.int (nI (bz b))) = true := by cases b <;> rfl
theorem bz_1 {b : Bool} (h : b = true) : nI 1 = nI (bz b) := by rw [h]; rfl
theorem bz_0 {b : Bool} (h : b = false) : nI 0 = nI (bz b) := by rw [h]; rfl
theorem bz_if (p : Prop) [Decidable p] : nI (if p then 1 else 0) = nI (bz (decide p)) := by
  by_cases h : p
  · rw [if_pos h, decide_eq_true h]; rfl
  · rw [if_neg h, decide_eq_false h]; rfl
def ch_small (c : Nat) : Bool := decide (97 ≤ c ∧ c ≤ 122)
def ch_digit (c : Nat) : Bool := decide (48 ≤ c ∧ c ≤ 57)
def ch_part (c : Nat) : Bool := ch_small c || ch_digit c
def nm_ok (w : List Nat) : Bool := decide (1 ≤ w.length ∧ w.length ≤ 6) && w.all ch_small
def vl_ok (w : List Nat) : Bool := decide (w.length ≤ 6) && w.all ch_part
/-- the words of a text, parted by a sign -/
def wd_sp (sep : Nat) : List Nat → List (List Nat)
  | [] => [[]]
  | c :: t => if c = sep then [] :: wd_sp sep t else match wd_sp sep t with
    | [] => [[c]]
    | w :: ws => (c :: w) :: ws
theorem wd_sp_ne (sep : Nat) (t : List Nat) : wd_sp sep t ≠ [] := by
  cases t with
  | nil => simp [wd_sp]
  | cons c t =>
    unfold wd_sp
    split
    · simp
    · split <;> simp
theorem wd_app (sep : Nat) : ∀ (w : List Nat) (r : List Nat), (∀ c ∈ w, c ≠ sep) → wd_sp sep (w ++ sep :: r) = w :: wd_sp sep r
  | [], r, _ => by simp [wd_sp]
  | c :: w, r, h => by
    have hc : ¬ c = sep := h c List.mem_cons_self
    have ih := wd_app sep w r (fun x hx => h x (List.mem_cons_of_mem _ hx))
    show wd_sp sep (c :: (w ++ sep :: r)) = _
    rw [wd_sp, if_neg hc, ih]
theorem wd_one (sep : Nat) : ∀ (w : List Nat), (∀ c ∈ w, c ≠ sep) → wd_sp sep w = [w]
  | [], _ => rfl
  | c :: w, h => by
    have hc : ¬ c = sep := h c List.mem_cons_self
    have ih := wd_one sep w (fun x hx => h x (List.mem_cons_of_mem _ hx))
    rw [wd_sp, if_neg hc, ih]
/-- the words from a place on (a place behind the end: none) -/
def wd_from (sep : Nat) (t : List Nat) (i : Nat) : List (List Nat) := if i ≤ t.length then wd_sp sep (t.drop i) else []
theorem wd_from_0 (sep : Nat) (t : List Nat) : wd_from sep t 0 = wd_sp sep t := by simp [wd_from]
theorem wd_end (sep : Nat) (t : List Nat) {i : Nat} (h : t.length < i) : wd_from sep t i = [] := by rw [wd_from, if_neg (by omega)]
theorem tx_sl_mem {t : List Nat} {a b c : Nat} (hb : b ≤ t.length) (h : c ∈ tx_sl t a b) : ∃ j, a ≤ j ∧ j < b ∧ t.getD j 0 = c := by
  obtain ⟨j, hj, e⟩ := List.getElem_of_mem h
  have hl := tx_sl_len (a := a) hb
  refine ⟨a + j, by omega, by omega, ?_⟩
  rw [← tx_sl_get hb (by omega), List.getD_eq_getElem?_getD, List.getElem?_eq_getElem hj]
  exact e
theorem tx_sl_drop {t : List Nat} {a b : Nat} (hab : a ≤ b) (hb : b ≤ t.length) : t.drop a = tx_sl t a b ++ t.drop b := by
  rw [tx_sl]
  have h := List.take_append_drop (b - a) (t.drop a)
  rw [List.drop_drop, show a + (b - a) = b by omega] at h
  rw [← h, List.drop_take]
theorem tx_drop_cons {t : List Nat} {i : Nat} (h : i < t.length) : t.drop i = t.getD i 0 :: t.drop (i + 1) := by
  rw [List.drop_eq_getElem_cons h, List.getD_eq_getElem?_getD, List.getElem?_eq_getElem h]
  rfl
theorem wd_step {sep : Nat} {t : List Nat} {a i : Nat} (hai : a ≤ i) (hi : i ≤ t.length) (hno : ∀ j, a ≤ j → j < i → ¬ t.getD j 0 = sep) (he : i = t.length ∨ t.getD i 0 = sep) : wd_from sep t a = tx_sl t a i :: wd_from sep t (i + 1) := by
  have hw : ∀ c ∈ tx_sl t a i, c ≠ sep := fun c hc => by
    obtain ⟨j, h1, h2, h3⟩ := tx_sl_mem hi hc
    rw [← h3]; exact hno j h1 h2
  rw [wd_from, if_pos (by omega), tx_sl_drop hai hi]
  by_cases h : i = t.length
  · subst h
    rw [List.drop_length, List.append_nil, wd_one _ _ hw, wd_end _ _ (by omega)]
  · have h2 : t.getD i 0 = sep := he.resolve_left h
    rw [tx_drop_cons (by omega), h2, wd_app _ _ _ hw, wd_from, if_pos (by omega)]
/-- a NAME, perhaps = and a VALUE -/
def pr_nm (w : List Nat) : List Nat := w.takeWhile (fun c => c != 61)
def pr_vl (w : List Nat) : List Nat := w.dropWhile (fun c => c != 61)
def pr_ok (w : List Nat) (need : Bool) : Bool := nm_ok (pr_nm w) && (match pr_vl w with
  | [] => !need
  | _ :: r => vl_ok r)
theorem pr_take {t : List Nat} {a k n : Nat} (hak : a ≤ k) (hkn : k ≤ n) (hn : n ≤ t.length) (hno : ∀ j, a ≤ j → j < k → ¬ t.getD j 0 = 61) (he : k < n → t.getD k 0 = 61) : pr_nm (tx_sl t a n) = tx_sl t a k ∧ pr_vl (tx_sl t a n) = tx_sl t k n := by
  have e : tx_sl t a n = tx_sl t a k ++ tx_sl t k n := by
    refine tx_ext (by rw [List.length_append, tx_sl_len hn, tx_sl_len (by omega), tx_sl_len hn]; omega) (fun j hj => ?_)
    rw [tx_sl_len hn] at hj
    rw [tx_sl_get hn (by omega)]
    by_cases h : j < k - a
    · rw [List.getD_eq_getElem?_getD (l := _ ++ _), List.getElem?_append_left (by rw [tx_sl_len (by omega)]; exact h), ← List.getD_eq_getElem?_getD, tx_sl_get (by omega) (by omega)]
    · rw [List.getD_eq_getElem?_getD (l := _ ++ _), List.getElem?_append_right (by rw [tx_sl_len (by omega)]; omega), tx_sl_len (by omega), ← List.getD_eq_getElem?_getD, tx_sl_get hn (by omega), show k + (j - (k - a)) = a + j by omega]
  have hw : ∀ c ∈ tx_sl t a k, (c != 61) = true := fun c hc => by
    obtain ⟨j, h1, h2, h3⟩ := tx_sl_mem (by omega) hc
    have := hno j h1 h2
    rw [h3] at this
    simpa using this
  have hh : ∀ (l : List Nat), (l = [] ∨ ∃ r, l = 61 :: r) → (tx_sl t a k ++ l).takeWhile (fun c => c != 61) = tx_sl t a k ∧ (tx_sl t a k ++ l).dropWhile (fun c => c != 61) = l := by
    intro l hl
    rw [List.takeWhile_append_of_pos hw, List.dropWhile_append_of_pos hw]
    rcases hl with rfl | ⟨r, rfl⟩ <;> simp
  rw [pr_nm, pr_vl, e]
  apply hh
  by_cases h : k < n
  · right
    refine ⟨tx_sl t (k + 1) n, ?_⟩
    have h2 := tx_drop_cons (t := t.take n) (i := k) (by rw [List.length_take]; omega)
    rw [tx_sl, h2]
    congr 1
    rw [← he h, List.getD_eq_getElem?_getD, List.getElem?_take, if_pos h, ← List.getD_eq_getElem?_getD]
  · left
    apply List.length_eq_zero_iff.mp
    rw [tx_sl_len hn]; omega
theorem tx_sl_hd {t : List Nat} {k n : Nat} (hk : k < n) (hn : n ≤ t.length) : tx_sl t k n = t.getD k 0 :: tx_sl t (k + 1) n := by
  have h2 := tx_drop_cons (t := t.take n) (i := k) (by rw [List.length_take]; omega)
  rw [tx_sl, h2]
  congr 1
  rw [List.getD_eq_getElem?_getD, List.getElem?_take, if_pos hk, ← List.getD_eq_getElem?_getD]
theorem tx_all {t : List Nat} {a b : Nat} {p : Nat → Bool} (hb : b ≤ t.length) (h : ∀ j, a ≤ j → j < b → p (t.getD j 0) = true) : (tx_sl t a b).all p = true := by
  rw [List.all_eq_true]
  intro c hc
  obtain ⟨j, h1, h2, h3⟩ := tx_sl_mem hb hc
  rw [← h3]; exact h j h1 h2
theorem tx_nall {t : List Nat} {a b k : Nat} {p : Nat → Bool} (hb : b ≤ t.length) (h1 : a ≤ k) (h2 : k < b) (h : p (t.getD k 0) = false) : (tx_sl t a b).all p = false := by
  apply Bool.eq_false_iff.mpr
  intro q
  have hl := tx_sl_len (a := a) hb
  have hm : t.getD k 0 ∈ tx_sl t a b := by
    have e := tx_sl_get (a := a) (j := k - a) hb (by omega)
    rw [show a + (k - a) = k by omega] at e
    rw [← e, List.getD_eq_getElem?_getD, List.getElem?_eq_getElem (by omega)]
    exact List.getElem_mem _
  rw [List.all_eq_true.mp q _ hm] at h
  cases h

set_option maxHeartbeats 4000000 in
set_option maxRecDepth 100000 in
theorem kc_TX_isPartEnd (l : Launch) (B : Nat) (D : va_G) (G : Nat → Nat) (M : hm_M) (a : Nat) (t : List Nat) (ht : tx_S D M a t) (i : Nat) (hi : i < 2 ^ 31) (sg : Nat) (hsg : sg < 128) : Met l yy_TX_isPartEnd ws_TX_isPartEnd ({ frames := 4, cells := 0, slots := 0, locals := 85 }) (hm_Pc B D G M [.ref a, .int (nI i), .int (nI sg)]) (hm_Ni B D (fun r M1 => r = nI (bz (decide (t.length ≤ i ∨ t.getD i 0 = sg))) ∧ M1 = M)) (0) (0) (hm_A B) := by
  refine Met.ofW (cc := cd_TX_isPartEnd) (maxL := 3) (ret := ((some FieldType.boolean))) (by decide) rfl ?_
  intro p e s m args below meth c s₁ B0 hml hv
  obtain ⟨rfl, hE, hP⟩ := hv
  have hx := B0.exec
  have hb := B0.bytes
  have hr := B0.returns
  have hts : ∀ w ∈ tb_G, w.before _ s = true := fun w h => atoms_spec (ws := ws_TX_isPartEnd) B0.pre w (List.mem_cons_of_mem _ h)
  have hown : s.vm.findClass "RouteDesk$Texts" = some m.cls := findClass_of_methodNamed B0.named
  have hlocks := B0.notSynchronized
  have hRf : (headSpec ws_TX_isPartEnd { frames := 4, cells := 0, slots := 0, locals := 85 }).room.frames = 4 := rfl
  have hRl : (headSpec ws_TX_isPartEnd { frames := 4, cells := 0, slots := 0, locals := 85 }).room.locals = 85 := rfl
  have hRc : (headSpec ws_TX_isPartEnd { frames := 4, cells := 0, slots := 0, locals := 85 }).room.cells = 0 := rfl
  have hRs : (headSpec ws_TX_isPartEnd { frames := 4, cells := 0, slots := 0, locals := 85 }).room.slots = 0 := rfl
  generalize (headSpec ws_TX_isPartEnd { frames := 4, cells := 0, slots := 0, locals := 85 }).room = R at hRf hRl hRc hRs ⊢
  have hS : va_S (hm_A B) s.heap s.heap [] := va_S.rf
  have hl := lv_entry ([.ref a, .int (nI i), .int (nI sg)]) (n := 3) (Nat.le_of_ble_eq_true rfl)
  rw [lg_entry_eq]
  generalize (lg_sl ([.ref a, .int (nI i), .int (nI sg)]) ++ List.replicate (3 - (lg_sl ([.ref a, .int (nI i), .int (nI sg)])).length) Slot.unset).toArray = ls at hl ⊢
  have hl : lv_has ls 3 [(0, .ref a), (1, .int (nI i)), (2, .int (nI sg))] := hl
  obtain ⟨v, f, h1, h2, h3, h4, h5⟩ := id ht
  refine lv_iload_n hx hb dd_TX_isPartEnd_0 rfl (lv_at hl 1 rfl) ?_
  refine lv_aload_n hx hb dd_TX_isPartEnd_1 rfl (lv_at hl 0 rfl) ?_
  refine hm_ci hS (hm_rV 0 (As := []) (rest := [.int (nI i)]) ⟨hx, hb, hml, hown, hts⟩ hE hS hP (kc_ST_length l B D G M a t ht) rfl h1 tw_490 tw_845 tw_488 tw_489 tw_39 (by decide +kernel) rfl rfl ⟨by show 1 + 1 ≤ R.frames; omega, by show 8 + (1 + 11) + 20 ≤ R.locals; omega⟩ rfl hl.1 rfl (Nat.le_of_ble_eq_true rfl) dd_TX_isPartEnd_2 ⟨by omega, by omega⟩) (fun r1 M2 H locs hw3 hP hS => ?_)
  refine W.widen (k := 0) (n := 0) (by omega) (by omega) ?_
  obtain ⟨rfl, eM2⟩ := hw3
  rw [eM2] at hP
  refine hn_icmp_ge (tgt := 17) hx hb (by omega) (by omega) dd_TX_isPartEnd_5 (by decide) (fun c4 => ?_) (fun c4 => ?_)
  · have c2 := c4
    refine lv_iconst (v := nI 1) hx hb dd_TX_isPartEnd_17 (by decide +kernel) ?_
    refine lv_goto (tgt := 22) hx hb dd_TX_isPartEnd_18 (by decide) ?_
    exact hm_Ei (v := nI 1) hx hb hr rfl hS hP (⟨bz_1 (decide_eq_true (Or.inl c2)), rfl⟩) hlocks (by omega) (by omega) dd_TX_isPartEnd_22
  · have c2 := c4
    refine lv_aload_n hx hb dd_TX_isPartEnd_8 rfl (lv_at hl 0 rfl) ?_
    refine lv_iload_n hx hb dd_TX_isPartEnd_9 rfl (lv_at hl 1 rfl) ?_
    refine hm_ci hS (hm_rV 1 (As := [.int (nI i)]) (rest := []) ⟨hx, hb, hml, hown, hts⟩ hE hS hP (kc_ST_charAt l B D G M a t ht i (by omega)) rfl h1 tw_619 tw_616 tw_617 tw_618 tw_39 (by decide +kernel) rfl rfl ⟨by show 3 + 1 ≤ R.frames; omega, by show 8 + (2 + 11) + 64 ≤ R.locals; omega⟩ rfl hl.1 rfl (Nat.le_of_ble_eq_true rfl) dd_TX_isPartEnd_10 ⟨by omega, by omega⟩) (fun r5 M6 H locs hw7 hP hS => ?_)
    refine W.widen (k := 0) (n := 0) (by omega) (by omega) ?_
    obtain ⟨rfl, eM6⟩ := hw7
    rw [eM6] at hP
    have bM6 := tx_lt h4 i
    refine lv_iload_n hx hb dd_TX_isPartEnd_13 rfl (lv_at hl 2 rfl) ?_
    refine hn_icmp_ne (tgt := 21) hx hb (by omega) (by omega) dd_TX_isPartEnd_14 (by decide) (fun c8 => ?_) (fun c8 => ?_)
    · have c3 := c8
      refine lv_iconst (v := nI 0) hx hb dd_TX_isPartEnd_21 (by decide +kernel) ?_
      exact hm_Ei (v := nI 0) hx hb hr rfl hS hP (⟨bz_0 (decide_eq_false (fun q => q.elim (fun q => absurd q (by omega)) c3)), rfl⟩) hlocks (by omega) (by omega) dd_TX_isPartEnd_22
    · have c3 := c8
      refine lv_iconst (v := nI 1) hx hb dd_TX_isPartEnd_17 (by decide +kernel) ?_
      refine lv_goto (tgt := 22) hx hb dd_TX_isPartEnd_18 (by decide) ?_
      exact hm_Ei (v := nI 1) hx hb hr rfl hS hP (⟨bz_1 (decide_eq_true (Or.inr c3)), rfl⟩) hlocks (by omega) (by omega) dd_TX_isPartEnd_22
set_option maxHeartbeats 4000000 in
set_option maxRecDepth 100000 in
theorem kc_TX_isSame (l : Launch) (B : Nat) (D : va_G) (G : Nat → Nat) (M : hm_M) (a : Nat) (t : List Nat) (ht : tx_S D M a t) (i n : Nat) (hi : i ≤ n) (hn : n ≤ t.length) (b : Nat) (u : List Nat) (hu : tx_S D M b u) (k o : Nat) (hk : k ≤ o) (ho : o ≤ u.length) : Met l yy_TX_isSame ws_TX_isSame ({ frames := 4, cells := 0, slots := 0, locals := 85 }) (hm_Pc B D G M [.ref a, .int (nI i), .int (nI n), .ref b, .int (nI k), .int (nI o)]) (hm_Ni B D (fun r M1 => r = nI (bz (decide (tx_sl t i n = tx_sl u k o))) ∧ M1 = M)) (0) (0) (hm_A B) := by
  refine Met.ofW (cc := cd_TX_isSame) (maxL := 7) (ret := ((some FieldType.boolean))) (by decide) rfl ?_
  intro p e s m args below meth c s₁ B0 hml hv
  obtain ⟨rfl, hE, hP⟩ := hv
  have hx := B0.exec
  have hb := B0.bytes
  have hr := B0.returns
  have hts : ∀ w ∈ tb_G, w.before _ s = true := fun w h => atoms_spec (ws := ws_TX_isSame) B0.pre w (List.mem_cons_of_mem _ h)
  have hown : s.vm.findClass "RouteDesk$Texts" = some m.cls := findClass_of_methodNamed B0.named
  have hlocks := B0.notSynchronized
  have hRf : (headSpec ws_TX_isSame { frames := 4, cells := 0, slots := 0, locals := 85 }).room.frames = 4 := rfl
  have hRl : (headSpec ws_TX_isSame { frames := 4, cells := 0, slots := 0, locals := 85 }).room.locals = 85 := rfl
  have hRc : (headSpec ws_TX_isSame { frames := 4, cells := 0, slots := 0, locals := 85 }).room.cells = 0 := rfl
  have hRs : (headSpec ws_TX_isSame { frames := 4, cells := 0, slots := 0, locals := 85 }).room.slots = 0 := rfl
  generalize (headSpec ws_TX_isSame { frames := 4, cells := 0, slots := 0, locals := 85 }).room = R at hRf hRl hRc hRs ⊢
  have hS : va_S (hm_A B) s.heap s.heap [] := va_S.rf
  have hl := lv_entry ([.ref a, .int (nI i), .int (nI n), .ref b, .int (nI k), .int (nI o)]) (n := 7) (Nat.le_of_ble_eq_true rfl)
  rw [lg_entry_eq]
  generalize (lg_sl ([.ref a, .int (nI i), .int (nI n), .ref b, .int (nI k), .int (nI o)]) ++ List.replicate (7 - (lg_sl ([.ref a, .int (nI i), .int (nI n), .ref b, .int (nI k), .int (nI o)])).length) Slot.unset).toArray = ls at hl ⊢
  have hl : lv_has ls 7 [(0, .ref a), (1, .int (nI i)), (2, .int (nI n)), (3, .ref b), (4, .int (nI k)), (5, .int (nI o))] := hl
  obtain ⟨v, f, h1, h2, h3, h4, h5⟩ := id ht
  obtain ⟨w, g, g1, g2, g3, g4, g5⟩ := id hu
  refine lv_iload_n hx hb dd_TX_isSame_0 rfl (lv_at hl 2 rfl) ?_
  refine lv_iload_n hx hb dd_TX_isSame_1 rfl (lv_at hl 1 rfl) ?_
  refine hn_isub hx hb (by omega) dd_TX_isSame_2 ?_
  refine lv_iload hx hb dd_TX_isSame_3 (lv_at hl 5 rfl) ?_
  refine lv_iload hx hb dd_TX_isSame_5 (lv_at hl 4 rfl) ?_
  refine hn_isub hx hb (by omega) dd_TX_isSame_7 ?_
  refine hn_icmp_eq (tgt := 13) hx hb (by omega) (by omega) dd_TX_isSame_8 (by decide) (fun c1 => ?_) (fun c1 => ?_)
  · have c1 := c1
    refine lv_iconst (v := nI 0) hx hb dd_TX_isSame_13 (by decide +kernel) ?_
    refine lv_istore (lv' := [(6, .int (nI 0)), (0, .ref a), (1, .int (nI i)), (2, .int (nI n)), (3, .ref b), (4, .int (nI k)), (5, .int (nI o))]) hx hb dd_TX_isSame_14 hl (by decide) rfl (fun ls hl => ?_)
    have lp16 : ∀ (n9 : Nat) (j : Nat), (j ≤ n - i) → (∀ q, q < j → t.getD (i + q) 0 = u.getD (k + q) 0) → n - i - j < n9 → ∀ (H : Heap) (locs : List Loc) (ls : Array Slot), hm_P D cl_W M H → va_S (hm_A B) s.heap H locs → lv_has ls 7 [(0, .ref a), (1, .int (nI i)), (2, .int (nI n)), (3, .ref b), (4, .int (nI k)), (5, .int (nI o)), (6, .int (nI j))] → W p l e R s m ([.ref a, .int (nI i), .int (nI n), .ref b, .int (nI k), .int (nI o)] : List Value).toArray below meth c H locs (0) (0) (MQ below (hm_Ni B D (fun r M1 => r = nI (bz (decide (tx_sl t i n = tx_sl u k o))) ∧ M1 = M)) ([.ref a, .int (nI i), .int (nI n), .ref b, .int (nI k), .int (nI o)] : List Value).toArray s (0) (0) (hm_A B)) (F0 m 16 ls []) := by
      intro n9
      induction n9 with
      | zero => intro j hj hj2 hm; exact absurd hm (Nat.not_lt_zero _)
      | succ n9 ih16 =>
        intro j hj hj2 hm H locs ls hP hS hl
        refine lv_iload hx hb dd_TX_isSame_16 (lv_at hl 6 rfl) ?_
        refine lv_iload_n hx hb dd_TX_isSame_18 rfl (lv_at hl 2 rfl) ?_
        refine lv_iload_n hx hb dd_TX_isSame_19 rfl (lv_at hl 1 rfl) ?_
        refine hn_isub hx hb (by omega) dd_TX_isSame_20 ?_
        refine hn_icmp_ge (tgt := 52) hx hb (by omega) (by omega) dd_TX_isSame_21 (by decide) (fun c2 => ?_) (fun c2 => ?_)
        · refine lv_iconst (v := nI 1) hx hb dd_TX_isSame_52 (by decide +kernel) ?_
          exact hm_Ei (v := nI 1) hx hb hr rfl hS hP (⟨bz_1 (decide_eq_true (tx_sl_eq hn ho hi hk c1 (fun q hq => hj2 q (by omega)))), rfl⟩) hlocks (by omega) (by omega) dd_TX_isSame_53
        · refine lv_aload_n hx hb dd_TX_isSame_24 rfl (lv_at hl 0 rfl) ?_
          refine lv_iload_n hx hb dd_TX_isSame_25 rfl (lv_at hl 1 rfl) ?_
          refine lv_iload hx hb dd_TX_isSame_26 (lv_at hl 6 rfl) ?_
          refine hn_iadd hx hb dd_TX_isSame_28 ?_
          refine hm_ci hS (hm_rV 1 (As := [.int (nI (i + j))]) (rest := []) ⟨hx, hb, hml, hown, hts⟩ hE hS hP (kc_ST_charAt l B D G M a t ht (i + j) (by omega)) rfl h1 tw_619 tw_616 tw_617 tw_618 tw_39 (by decide +kernel) rfl rfl ⟨by show 3 + 1 ≤ R.frames; omega, by show 8 + (2 + 11) + 64 ≤ R.locals; omega⟩ rfl hl.1 rfl (Nat.le_of_ble_eq_true rfl) dd_TX_isSame_29 ⟨by omega, by omega⟩) (fun r3 M4 H locs hw5 hP hS => ?_)
          refine W.widen (k := 0) (n := 0) (by omega) (by omega) ?_
          obtain ⟨rfl, eM4⟩ := hw5
          rw [eM4] at hP
          have bM4 := tx_lt h4 (i + j)
          refine lv_aload_n hx hb dd_TX_isSame_32 rfl (lv_at hl 3 rfl) ?_
          refine lv_iload hx hb dd_TX_isSame_33 (lv_at hl 4 rfl) ?_
          refine lv_iload hx hb dd_TX_isSame_35 (lv_at hl 6 rfl) ?_
          refine hn_iadd hx hb dd_TX_isSame_37 ?_
          refine hm_ci hS (hm_rV 1 (As := [.int (nI (k + j))]) (rest := [.int (nI (t.getD (i + j) 0))]) ⟨hx, hb, hml, hown, hts⟩ hE hS hP (kc_ST_charAt l B D G M b u hu (k + j) (by omega)) rfl g1 tw_619 tw_616 tw_617 tw_618 tw_39 (by decide +kernel) rfl rfl ⟨by show 3 + 1 ≤ R.frames; omega, by show 8 + (2 + 11) + 64 ≤ R.locals; omega⟩ rfl hl.1 rfl (Nat.le_of_ble_eq_true rfl) dd_TX_isSame_38 ⟨by omega, by omega⟩) (fun r6 M7 H locs hw8 hP hS => ?_)
          refine W.widen (k := 0) (n := 0) (by omega) (by omega) ?_
          obtain ⟨rfl, eM7⟩ := hw8
          rw [eM7] at hP
          have bM7 := tx_lt g4 (k + j)
          refine hn_icmp_eq (tgt := 46) hx hb (by omega) (by omega) dd_TX_isSame_41 (by decide) (fun c9 => ?_) (fun c9 => ?_)
          · have c4 := c9
            refine lv_iinc (v := nI (j + 1)) (lv' := [(6, .int (nI (j + 1))), (0, .ref a), (1, .int (nI i)), (2, .int (nI n)), (3, .ref b), (4, .int (nI k)), (5, .int (nI o))]) hx hb dd_TX_isSame_46 hl (k := 6) rfl (nI_1 j) (by decide) rfl (fun ls hl => ?_)
            refine lv_goto (tgt := 16) hx hb dd_TX_isSame_49 (by decide) ?_
            exact ih16 (j + 1) (by omega) (fun q h => by
                by_cases e : q = j
                · subst e; exact c4
                · exact hj2 q (by omega)) (by omega) _ _ _ hP hS (lv_sub hl [1, 2, 3, 4, 5, 6, 0] rfl)
          · have c4 := c9
            refine lv_iconst (v := nI 0) hx hb dd_TX_isSame_44 (by decide +kernel) ?_
            exact hm_Ei (v := nI 0) hx hb hr rfl hS hP (⟨bz_0 (decide_eq_false (tx_sl_ne hn ho (by omega) c1 c4)), rfl⟩) hlocks (by omega) (by omega) dd_TX_isSame_45
    exact lp16 _ 0 (Nat.zero_le _) (fun q h => absurd h (Nat.not_lt_zero _)) (Nat.lt_succ_self _) _ _ _ hP hS (lv_sub hl [1, 2, 3, 4, 5, 6, 0] rfl)
  · have c1 := c1
    refine lv_iconst (v := nI 0) hx hb dd_TX_isSame_11 (by decide +kernel) ?_
    exact hm_Ei (v := nI 0) hx hb hr rfl hS hP (⟨bz_0 (decide_eq_false (fun q => c1 (by rw [← tx_sl_len hn, ← tx_sl_len ho, q]))), rfl⟩) hlocks (by omega) (by omega) dd_TX_isSame_12
set_option maxHeartbeats 4000000 in
set_option maxRecDepth 100000 in
theorem kc_TX_beginsWith (l : Launch) (B : Nat) (D : va_G) (G : Nat → Nat) (M : hm_M) (a : Nat) (t : List Nat) (ht : tx_S D M a t) (b : Nat) (u : List Nat) (hu : tx_S D M b u) : Met l yy_TX_beginsWith ws_TX_beginsWith ({ frames := 5, cells := 0, slots := 0, locals := 111 }) (hm_Pc B D G M [.ref a, .ref b]) (hm_Ni B D (fun r M1 => r = nI (bz (decide (t.take u.length = u))) ∧ M1 = M)) (0) (0) (hm_A B) := by
  refine Met.ofW (cc := cd_TX_beginsWith) (maxL := 2) (ret := ((some FieldType.boolean))) (by decide) rfl ?_
  intro p e s m args below meth c s₁ B0 hml hv
  obtain ⟨rfl, hE, hP⟩ := hv
  have hx := B0.exec
  have hb := B0.bytes
  have hr := B0.returns
  have hts : ∀ w ∈ tb_G, w.before _ s = true := fun w h => atoms_spec (ws := ws_TX_beginsWith) B0.pre w (List.mem_cons_of_mem _ h)
  have hown : s.vm.findClass "RouteDesk$Texts" = some m.cls := findClass_of_methodNamed B0.named
  have hlocks := B0.notSynchronized
  have hRf : (headSpec ws_TX_beginsWith { frames := 5, cells := 0, slots := 0, locals := 111 }).room.frames = 5 := rfl
  have hRl : (headSpec ws_TX_beginsWith { frames := 5, cells := 0, slots := 0, locals := 111 }).room.locals = 111 := rfl
  have hRc : (headSpec ws_TX_beginsWith { frames := 5, cells := 0, slots := 0, locals := 111 }).room.cells = 0 := rfl
  have hRs : (headSpec ws_TX_beginsWith { frames := 5, cells := 0, slots := 0, locals := 111 }).room.slots = 0 := rfl
  generalize (headSpec ws_TX_beginsWith { frames := 5, cells := 0, slots := 0, locals := 111 }).room = R at hRf hRl hRc hRs ⊢
  have hS : va_S (hm_A B) s.heap s.heap [] := va_S.rf
  have hl := lv_entry ([.ref a, .ref b]) (n := 2) (Nat.le_of_ble_eq_true rfl)
  rw [lg_entry_eq]
  generalize (lg_sl ([.ref a, .ref b]) ++ List.replicate (2 - (lg_sl ([.ref a, .ref b])).length) Slot.unset).toArray = ls at hl ⊢
  have hl : lv_has ls 2 [(0, .ref a), (1, .ref b)] := hl
  obtain ⟨v, f, h1, h2, h3, h4, h5⟩ := id ht
  obtain ⟨w, g, g1, g2, g3, g4, g5⟩ := id hu
  refine lv_aload_n hx hb dd_TX_beginsWith_0 rfl (lv_at hl 0 rfl) ?_
  refine hm_ci hS (hm_rV 0 (As := []) (rest := []) ⟨hx, hb, hml, hown, hts⟩ hE hS hP (kc_ST_length l B D G M a t ht) rfl h1 tw_490 tw_845 tw_488 tw_489 tw_39 (by decide +kernel) rfl rfl ⟨by show 1 + 1 ≤ R.frames; omega, by show 8 + (1 + 11) + 20 ≤ R.locals; omega⟩ rfl hl.1 rfl (Nat.le_of_ble_eq_true rfl) dd_TX_beginsWith_1 ⟨by omega, by omega⟩) (fun r1 M2 H locs hw3 hP hS => ?_)
  refine W.widen (k := 0) (n := 0) (by omega) (by omega) ?_
  obtain ⟨rfl, eM2⟩ := hw3
  rw [eM2] at hP
  refine lv_aload_n hx hb dd_TX_beginsWith_4 rfl (lv_at hl 1 rfl) ?_
  refine hm_ci hS (hm_rV 0 (As := []) (rest := [.int (nI t.length)]) ⟨hx, hb, hml, hown, hts⟩ hE hS hP (kc_ST_length l B D G M b u hu) rfl g1 tw_490 tw_845 tw_488 tw_489 tw_39 (by decide +kernel) rfl rfl ⟨by show 1 + 1 ≤ R.frames; omega, by show 8 + (1 + 11) + 20 ≤ R.locals; omega⟩ rfl hl.1 rfl (Nat.le_of_ble_eq_true rfl) dd_TX_beginsWith_5 ⟨by omega, by omega⟩) (fun r4 M5 H locs hw6 hP hS => ?_)
  refine W.widen (k := 0) (n := 0) (by omega) (by omega) ?_
  obtain ⟨rfl, eM5⟩ := hw6
  rw [eM5] at hP
  refine hn_icmp_lt (tgt := 33) hx hb (by omega) (by omega) dd_TX_beginsWith_8 (by decide) (fun c7 => ?_) (fun c7 => ?_)
  · have c1 := c7
    refine lv_iconst (v := nI 0) hx hb dd_TX_beginsWith_33 (by decide +kernel) ?_
    exact hm_Ei (v := nI 0) hx hb hr rfl hS hP (⟨bz_0 (decide_eq_false (fun q => by have := congrArg List.length q; rw [List.length_take] at this; omega)), rfl⟩) hlocks (by omega) (by omega) dd_TX_beginsWith_34
  · have c1 := c7
    refine lv_aload_n hx hb dd_TX_beginsWith_11 rfl (lv_at hl 0 rfl) ?_
    refine lv_iconst (v := nI 0) hx hb dd_TX_beginsWith_12 (by decide +kernel) ?_
    refine lv_aload_n hx hb dd_TX_beginsWith_13 rfl (lv_at hl 1 rfl) ?_
    refine hm_ci hS (hm_rV 0 (As := []) (rest := [.int (nI 0), .ref a]) ⟨hx, hb, hml, hown, hts⟩ hE hS hP (kc_ST_length l B D G M b u hu) rfl g1 tw_490 tw_845 tw_488 tw_489 tw_39 (by decide +kernel) rfl rfl ⟨by show 1 + 1 ≤ R.frames; omega, by show 8 + (1 + 11) + 20 ≤ R.locals; omega⟩ rfl hl.1 rfl (Nat.le_of_ble_eq_true rfl) dd_TX_beginsWith_14 ⟨by omega, by omega⟩) (fun r8 M9 H locs hw10 hP hS => ?_)
    refine W.widen (k := 0) (n := 0) (by omega) (by omega) ?_
    obtain ⟨rfl, eM9⟩ := hw10
    rw [eM9] at hP
    refine lv_aload_n hx hb dd_TX_beginsWith_17 rfl (lv_at hl 1 rfl) ?_
    refine lv_iconst (v := nI 0) hx hb dd_TX_beginsWith_18 (by decide +kernel) ?_
    refine lv_aload_n hx hb dd_TX_beginsWith_19 rfl (lv_at hl 1 rfl) ?_
    refine hm_ci hS (hm_rV 0 (As := []) (rest := [.int (nI 0), .ref b, .int (nI u.length), .int (nI 0), .ref a]) ⟨hx, hb, hml, hown, hts⟩ hE hS hP (kc_ST_length l B D G M b u hu) rfl g1 tw_490 tw_845 tw_488 tw_489 tw_39 (by decide +kernel) rfl rfl ⟨by show 1 + 1 ≤ R.frames; omega, by show 8 + (1 + 11) + 20 ≤ R.locals; omega⟩ rfl hl.1 rfl (Nat.le_of_ble_eq_true rfl) dd_TX_beginsWith_20 ⟨by omega, by omega⟩) (fun r11 M12 H locs hw13 hP hS => ?_)
    refine W.widen (k := 0) (n := 0) (by omega) (by omega) ?_
    obtain ⟨rfl, eM12⟩ := hw13
    rw [eM12] at hP
    refine hm_ci hS (hm_rS 6 (As := [.ref a, .int (nI 0), .int (nI u.length), .ref b, .int (nI 0), .int (nI u.length)]) (rest := []) ⟨hx, hb, hml, hown, hts⟩ hE hS hP (kc_TX_isSame l B D G M a t ht 0 u.length (Nat.zero_le _) c1 b u hu 0 u.length (Nat.zero_le _) (Nat.le_refl _)) tw_859 tw_857 tw_858 tw_62 (by decide +kernel) rfl rfl ⟨by show 4 + 1 ≤ R.frames; omega, by show 8 + (7 + 11) + 85 ≤ R.locals; omega⟩ rfl hl.1 rfl (Nat.le_of_ble_eq_true rfl) dd_TX_beginsWith_23 ⟨by omega, by omega⟩) (fun r14 M15 H locs hw16 hP hS => ?_)
    refine W.widen (k := 0) (n := 0) (by omega) (by omega) ?_
    obtain ⟨rfl, eM15⟩ := hw16
    rw [eM15] at hP
    refine hn_if_eq (tgt := 33) hx hb (bz_b _) dd_TX_beginsWith_26 (by decide) (fun c17 => ?_) (fun c17 => ?_)
    · have c2 := of_decide_eq_false (bz_f c17)
      rw [tx_sl_all, tx_sl, List.drop_zero] at c2
      refine lv_iconst (v := nI 0) hx hb dd_TX_beginsWith_33 (by decide +kernel) ?_
      exact hm_Ei (v := nI 0) hx hb hr rfl hS hP (⟨bz_0 (decide_eq_false c2), rfl⟩) hlocks (by omega) (by omega) dd_TX_beginsWith_34
    · have c2 := of_decide_eq_true (bz_t c17)
      rw [tx_sl_all, tx_sl, List.drop_zero] at c2
      refine lv_iconst (v := nI 1) hx hb dd_TX_beginsWith_29 (by decide +kernel) ?_
      refine lv_goto (tgt := 34) hx hb dd_TX_beginsWith_30 (by decide) ?_
      exact hm_Ei (v := nI 1) hx hb hr rfl hS hP (⟨bz_1 (decide_eq_true c2), rfl⟩) hlocks (by omega) (by omega) dd_TX_beginsWith_34
set_option maxHeartbeats 4000000 in
set_option maxRecDepth 100000 in
theorem kc_HT_isSmallLetter (l : Launch) (B : Nat) (D : va_G) (G : Nat → Nat) (M : hm_M) (c0 : Nat) (hc : c0 < 128) : Met l yy_HT_isSmallLetter ws_HT_isSmallLetter ({ frames := 0, cells := 0, slots := 0, locals := 0 }) (hm_Pc B D G M [.int (nI c0)]) (hm_Ni B D (fun r M1 => r = nI (bz (ch_small c0)) ∧ M1 = M)) (0) (0) (hm_A B) := by
  refine Met.ofW (cc := cd_HT_isSmallLetter) (maxL := 1) (ret := ((some FieldType.boolean))) (by decide) rfl ?_
  intro p e s m args below meth c s₁ B0 hml hv
  obtain ⟨rfl, hE, hP⟩ := hv
  have hx := B0.exec
  have hb := B0.bytes
  have hr := B0.returns
  have hts : ∀ w ∈ tb_G, w.before _ s = true := fun w h => atoms_spec (ws := ws_HT_isSmallLetter) B0.pre w (List.mem_cons_of_mem _ h)
  have hown : s.vm.findClass "RouteDesk$HeaderText" = some m.cls := findClass_of_methodNamed B0.named
  have hlocks := B0.notSynchronized
  have hRf : (headSpec ws_HT_isSmallLetter { frames := 0, cells := 0, slots := 0, locals := 0 }).room.frames = 0 := rfl
  have hRl : (headSpec ws_HT_isSmallLetter { frames := 0, cells := 0, slots := 0, locals := 0 }).room.locals = 0 := rfl
  have hRc : (headSpec ws_HT_isSmallLetter { frames := 0, cells := 0, slots := 0, locals := 0 }).room.cells = 0 := rfl
  have hRs : (headSpec ws_HT_isSmallLetter { frames := 0, cells := 0, slots := 0, locals := 0 }).room.slots = 0 := rfl
  generalize (headSpec ws_HT_isSmallLetter { frames := 0, cells := 0, slots := 0, locals := 0 }).room = R at hRf hRl hRc hRs ⊢
  have hS : va_S (hm_A B) s.heap s.heap [] := va_S.rf
  have hl := lv_entry ([.int (nI c0)]) (n := 1) (Nat.le_of_ble_eq_true rfl)
  rw [lg_entry_eq]
  generalize (lg_sl ([.int (nI c0)]) ++ List.replicate (1 - (lg_sl ([.int (nI c0)])).length) Slot.unset).toArray = ls at hl ⊢
  have hl : lv_has ls 1 [(0, .int (nI c0))] := hl
  refine lv_iload_n hx hb dd_HT_isSmallLetter_0 rfl (lv_at hl 0 rfl) ?_
  refine lv_bipush (v := nI 97) hx hb dd_HT_isSmallLetter_1 (by decide +kernel) ?_
  refine hn_icmp_lt (tgt := 16) hx hb (by omega) (by omega) dd_HT_isSmallLetter_3 (by decide) (fun c1 => ?_) (fun c1 => ?_)
  · refine lv_iconst (v := nI 0) hx hb dd_HT_isSmallLetter_16 (by decide +kernel) ?_
    exact hm_Ei (v := nI 0) hx hb hr rfl hS hP (⟨by first | exact bz_1 (decide_eq_true (by omega)) | exact bz_0 (decide_eq_false (by omega)), rfl⟩) hlocks (by omega) (by omega) dd_HT_isSmallLetter_17
  · refine lv_iload_n hx hb dd_HT_isSmallLetter_6 rfl (lv_at hl 0 rfl) ?_
    refine lv_bipush (v := nI 122) hx hb dd_HT_isSmallLetter_7 (by decide +kernel) ?_
    refine hn_icmp_gt (tgt := 16) hx hb (by omega) (by omega) dd_HT_isSmallLetter_9 (by decide) (fun c2 => ?_) (fun c2 => ?_)
    · refine lv_iconst (v := nI 0) hx hb dd_HT_isSmallLetter_16 (by decide +kernel) ?_
      exact hm_Ei (v := nI 0) hx hb hr rfl hS hP (⟨by first | exact bz_1 (decide_eq_true (by omega)) | exact bz_0 (decide_eq_false (by omega)), rfl⟩) hlocks (by omega) (by omega) dd_HT_isSmallLetter_17
    · refine lv_iconst (v := nI 1) hx hb dd_HT_isSmallLetter_12 (by decide +kernel) ?_
      refine lv_goto (tgt := 17) hx hb dd_HT_isSmallLetter_13 (by decide) ?_
      exact hm_Ei (v := nI 1) hx hb hr rfl hS hP (⟨by first | exact bz_1 (decide_eq_true (by omega)) | exact bz_0 (decide_eq_false (by omega)), rfl⟩) hlocks (by omega) (by omega) dd_HT_isSmallLetter_17
set_option maxHeartbeats 4000000 in
set_option maxRecDepth 100000 in
theorem kc_HT_isDigit (l : Launch) (B : Nat) (D : va_G) (G : Nat → Nat) (M : hm_M) (c0 : Nat) (hc : c0 < 128) : Met l yy_HT_isDigit ws_HT_isDigit ({ frames := 0, cells := 0, slots := 0, locals := 0 }) (hm_Pc B D G M [.int (nI c0)]) (hm_Ni B D (fun r M1 => r = nI (bz (ch_digit c0)) ∧ M1 = M)) (0) (0) (hm_A B) := by
  refine Met.ofW (cc := cd_HT_isDigit) (maxL := 1) (ret := ((some FieldType.boolean))) (by decide) rfl ?_
  intro p e s m args below meth c s₁ B0 hml hv
  obtain ⟨rfl, hE, hP⟩ := hv
  have hx := B0.exec
  have hb := B0.bytes
  have hr := B0.returns
  have hts : ∀ w ∈ tb_G, w.before _ s = true := fun w h => atoms_spec (ws := ws_HT_isDigit) B0.pre w (List.mem_cons_of_mem _ h)
  have hown : s.vm.findClass "RouteDesk$HeaderText" = some m.cls := findClass_of_methodNamed B0.named
  have hlocks := B0.notSynchronized
  have hRf : (headSpec ws_HT_isDigit { frames := 0, cells := 0, slots := 0, locals := 0 }).room.frames = 0 := rfl
  have hRl : (headSpec ws_HT_isDigit { frames := 0, cells := 0, slots := 0, locals := 0 }).room.locals = 0 := rfl
  have hRc : (headSpec ws_HT_isDigit { frames := 0, cells := 0, slots := 0, locals := 0 }).room.cells = 0 := rfl
  have hRs : (headSpec ws_HT_isDigit { frames := 0, cells := 0, slots := 0, locals := 0 }).room.slots = 0 := rfl
  generalize (headSpec ws_HT_isDigit { frames := 0, cells := 0, slots := 0, locals := 0 }).room = R at hRf hRl hRc hRs ⊢
  have hS : va_S (hm_A B) s.heap s.heap [] := va_S.rf
  have hl := lv_entry ([.int (nI c0)]) (n := 1) (Nat.le_of_ble_eq_true rfl)
  rw [lg_entry_eq]
  generalize (lg_sl ([.int (nI c0)]) ++ List.replicate (1 - (lg_sl ([.int (nI c0)])).length) Slot.unset).toArray = ls at hl ⊢
  have hl : lv_has ls 1 [(0, .int (nI c0))] := hl
  refine lv_iload_n hx hb dd_HT_isDigit_0 rfl (lv_at hl 0 rfl) ?_
  refine lv_bipush (v := nI 48) hx hb dd_HT_isDigit_1 (by decide +kernel) ?_
  refine hn_icmp_lt (tgt := 16) hx hb (by omega) (by omega) dd_HT_isDigit_3 (by decide) (fun c1 => ?_) (fun c1 => ?_)
  · refine lv_iconst (v := nI 0) hx hb dd_HT_isDigit_16 (by decide +kernel) ?_
    exact hm_Ei (v := nI 0) hx hb hr rfl hS hP (⟨by first | exact bz_1 (decide_eq_true (by omega)) | exact bz_0 (decide_eq_false (by omega)), rfl⟩) hlocks (by omega) (by omega) dd_HT_isDigit_17
  · refine lv_iload_n hx hb dd_HT_isDigit_6 rfl (lv_at hl 0 rfl) ?_
    refine lv_bipush (v := nI 57) hx hb dd_HT_isDigit_7 (by decide +kernel) ?_
    refine hn_icmp_gt (tgt := 16) hx hb (by omega) (by omega) dd_HT_isDigit_9 (by decide) (fun c2 => ?_) (fun c2 => ?_)
    · refine lv_iconst (v := nI 0) hx hb dd_HT_isDigit_16 (by decide +kernel) ?_
      exact hm_Ei (v := nI 0) hx hb hr rfl hS hP (⟨by first | exact bz_1 (decide_eq_true (by omega)) | exact bz_0 (decide_eq_false (by omega)), rfl⟩) hlocks (by omega) (by omega) dd_HT_isDigit_17
    · refine lv_iconst (v := nI 1) hx hb dd_HT_isDigit_12 (by decide +kernel) ?_
      refine lv_goto (tgt := 17) hx hb dd_HT_isDigit_13 (by decide) ?_
      exact hm_Ei (v := nI 1) hx hb hr rfl hS hP (⟨by first | exact bz_1 (decide_eq_true (by omega)) | exact bz_0 (decide_eq_false (by omega)), rfl⟩) hlocks (by omega) (by omega) dd_HT_isDigit_17
set_option maxHeartbeats 4000000 in
set_option maxRecDepth 100000 in
theorem kc_HT_isName (l : Launch) (B : Nat) (D : va_G) (G : Nat → Nat) (M : hm_M) (a : Nat) (t : List Nat) (ht : tx_S D M a t) (i n : Nat) (hi : i ≤ n) (hn : n ≤ t.length) : Met l yy_HT_isName ws_HT_isName ({ frames := 4, cells := 0, slots := 0, locals := 85 }) (hm_Pc B D G M [.ref a, .int (nI i), .int (nI n)]) (hm_Ni B D (fun r M1 => r = nI (bz (nm_ok (tx_sl t i n))) ∧ M1 = M)) (0) (0) (hm_A B) := by
  refine Met.ofW (cc := cd_HT_isName) (maxL := 4) (ret := ((some FieldType.boolean))) (by decide) rfl ?_
  intro p e s m args below meth c s₁ B0 hml hv
  obtain ⟨rfl, hE, hP⟩ := hv
  have hx := B0.exec
  have hb := B0.bytes
  have hr := B0.returns
  have hts : ∀ w ∈ tb_G, w.before _ s = true := fun w h => atoms_spec (ws := ws_HT_isName) B0.pre w (List.mem_cons_of_mem _ h)
  have hown : s.vm.findClass "RouteDesk$HeaderText" = some m.cls := findClass_of_methodNamed B0.named
  have hlocks := B0.notSynchronized
  have hRf : (headSpec ws_HT_isName { frames := 4, cells := 0, slots := 0, locals := 85 }).room.frames = 4 := rfl
  have hRl : (headSpec ws_HT_isName { frames := 4, cells := 0, slots := 0, locals := 85 }).room.locals = 85 := rfl
  have hRc : (headSpec ws_HT_isName { frames := 4, cells := 0, slots := 0, locals := 85 }).room.cells = 0 := rfl
  have hRs : (headSpec ws_HT_isName { frames := 4, cells := 0, slots := 0, locals := 85 }).room.slots = 0 := rfl
  generalize (headSpec ws_HT_isName { frames := 4, cells := 0, slots := 0, locals := 85 }).room = R at hRf hRl hRc hRs ⊢
  have hS : va_S (hm_A B) s.heap s.heap [] := va_S.rf
  have hl := lv_entry ([.ref a, .int (nI i), .int (nI n)]) (n := 4) (Nat.le_of_ble_eq_true rfl)
  rw [lg_entry_eq]
  generalize (lg_sl ([.ref a, .int (nI i), .int (nI n)]) ++ List.replicate (4 - (lg_sl ([.ref a, .int (nI i), .int (nI n)])).length) Slot.unset).toArray = ls at hl ⊢
  have hl : lv_has ls 4 [(0, .ref a), (1, .int (nI i)), (2, .int (nI n))] := hl
  obtain ⟨v, f, h1, h2, h3, h4, h5⟩ := id ht
  refine lv_iload_n hx hb dd_HT_isName_0 rfl (lv_at hl 2 rfl) ?_
  refine lv_iload_n hx hb dd_HT_isName_1 rfl (lv_at hl 1 rfl) ?_
  refine hn_isub hx hb (by omega) dd_HT_isName_2 ?_
  refine lv_iconst (v := nI 1) hx hb dd_HT_isName_3 (by decide +kernel) ?_
  refine hn_icmp_lt (tgt := 15) hx hb (by omega) (by omega) dd_HT_isName_4 (by decide) (fun c1 => ?_) (fun c1 => ?_)
  · refine lv_iconst (v := nI 0) hx hb dd_HT_isName_15 (by decide +kernel) ?_
    exact hm_Ei (v := nI 0) hx hb hr rfl hS hP (⟨bz_0 (by rw [nm_ok, tx_sl_len hn, decide_eq_false (by omega)]; rfl), rfl⟩) hlocks (by omega) (by omega) dd_HT_isName_16
  · refine lv_iload_n hx hb dd_HT_isName_7 rfl (lv_at hl 2 rfl) ?_
    refine lv_iload_n hx hb dd_HT_isName_8 rfl (lv_at hl 1 rfl) ?_
    refine hn_isub hx hb (by omega) dd_HT_isName_9 ?_
    refine lv_bipush (v := nI 6) hx hb dd_HT_isName_10 (by decide +kernel) ?_
    refine hn_icmp_le (tgt := 17) hx hb (by omega) (by omega) dd_HT_isName_12 (by decide) (fun c2 => ?_) (fun c2 => ?_)
    · refine lv_iload_n hx hb dd_HT_isName_17 rfl (lv_at hl 1 rfl) ?_
      refine lv_istore_n (lv' := [(3, .int (nI i)), (0, .ref a), (1, .int (nI i)), (2, .int (nI n))]) hx hb dd_HT_isName_18 rfl hl (by decide) rfl (fun ls hl => ?_)
      have lp19 : ∀ (n9 : Nat) (k : Nat), (i ≤ k) → (k ≤ n) → (∀ j, i ≤ j → j < k → ch_small (t.getD j 0) = true) → n - k < n9 → ∀ (H : Heap) (locs : List Loc) (ls : Array Slot), hm_P D cl_W M H → va_S (hm_A B) s.heap H locs → lv_has ls 4 [(0, .ref a), (1, .int (nI i)), (2, .int (nI n)), (3, .int (nI k))] → W p l e R s m ([.ref a, .int (nI i), .int (nI n)] : List Value).toArray below meth c H locs (0) (0) (MQ below (hm_Ni B D (fun r M1 => r = nI (bz (nm_ok (tx_sl t i n))) ∧ M1 = M)) ([.ref a, .int (nI i), .int (nI n)] : List Value).toArray s (0) (0) (hm_A B)) (F0 m 19 ls []) := by
        intro n9
        induction n9 with
        | zero => intro k hk1 hk hk2 hm; exact absurd hm (Nat.not_lt_zero _)
        | succ n9 ih19 =>
          intro k hk1 hk hk2 hm H locs ls hP hS hl
          refine lv_iload_n hx hb dd_HT_isName_19 rfl (lv_at hl 3 rfl) ?_
          refine lv_iload_n hx hb dd_HT_isName_20 rfl (lv_at hl 2 rfl) ?_
          refine hn_icmp_ge (tgt := 43) hx hb (by omega) (by omega) dd_HT_isName_21 (by decide) (fun c3 => ?_) (fun c3 => ?_)
          · refine lv_iconst (v := nI 1) hx hb dd_HT_isName_43 (by decide +kernel) ?_
            exact hm_Ei (v := nI 1) hx hb hr rfl hS hP (⟨bz_1 (by rw [nm_ok, tx_sl_len hn, decide_eq_true (by omega), tx_all hn (fun j h8 h9 => hk2 j h8 (by omega))]; rfl), rfl⟩) hlocks (by omega) (by omega) dd_HT_isName_44
          · refine lv_aload_n hx hb dd_HT_isName_24 rfl (lv_at hl 0 rfl) ?_
            refine lv_iload_n hx hb dd_HT_isName_25 rfl (lv_at hl 3 rfl) ?_
            refine hm_ci hS (hm_rV 1 (As := [.int (nI k)]) (rest := []) ⟨hx, hb, hml, hown, hts⟩ hE hS hP (kc_ST_charAt l B D G M a t ht k (by omega)) rfl h1 tw_619 tw_638 tw_617 tw_618 tw_39 (by decide +kernel) rfl rfl ⟨by show 3 + 1 ≤ R.frames; omega, by show 8 + (2 + 11) + 64 ≤ R.locals; omega⟩ rfl hl.1 rfl (Nat.le_of_ble_eq_true rfl) dd_HT_isName_26 ⟨by omega, by omega⟩) (fun r4 M5 H locs hw6 hP hS => ?_)
            refine W.widen (k := 0) (n := 0) (by omega) (by omega) ?_
            obtain ⟨rfl, eM5⟩ := hw6
            rw [eM5] at hP
            have bM5 := tx_lt h4 k
            refine hm_ci hS (hm_rS 1 (As := [.int (nI (t.getD k 0))]) (rest := []) ⟨hx, hb, hml, hown, hts⟩ hE hS hP (kc_HT_isSmallLetter l B D G M (t.getD k 0) (by omega)) tw_641 tw_639 tw_640 tw_63 (by decide +kernel) rfl rfl ⟨by show 0 + 1 ≤ R.frames; omega, by show 8 + (1 + 11) + 0 ≤ R.locals; omega⟩ rfl hl.1 rfl (Nat.le_of_ble_eq_true rfl) dd_HT_isName_29 ⟨by omega, by omega⟩) (fun r7 M8 H locs hw9 hP hS => ?_)
            refine W.widen (k := 0) (n := 0) (by omega) (by omega) ?_
            obtain ⟨rfl, eM8⟩ := hw9
            rw [eM8] at hP
            refine hn_if_ne (tgt := 37) hx hb (bz_b _) dd_HT_isName_32 (by decide) (fun c10 => ?_) (fun c10 => ?_)
            · have c4 := bz_t c10
              refine lv_iinc (v := nI (k + 1)) (lv' := [(3, .int (nI (k + 1))), (0, .ref a), (1, .int (nI i)), (2, .int (nI n))]) hx hb dd_HT_isName_37 hl (k := 3) rfl (nI_1 k) (by decide) rfl (fun ls hl => ?_)
              refine lv_goto (tgt := 19) hx hb dd_HT_isName_40 (by decide) ?_
              exact ih19 (k + 1) (by omega) (by omega) (fun j h8 h9 => by
                  by_cases q : j = k
                  · subst q; exact c4
                  · exact hk2 j h8 (by omega)) (by omega) _ _ _ hP hS (lv_sub hl [1, 2, 3, 0] rfl)
            · have c4 := bz_f c10
              refine lv_iconst (v := nI 0) hx hb dd_HT_isName_35 (by decide +kernel) ?_
              exact hm_Ei (v := nI 0) hx hb hr rfl hS hP (⟨bz_0 (by rw [nm_ok, tx_nall hn hk1 (by omega) c4, Bool.and_false]), rfl⟩) hlocks (by omega) (by omega) dd_HT_isName_36
      exact lp19 _ i (Nat.le_refl _) (hi) (fun j h8 h9 => absurd h9 (by omega)) (Nat.lt_succ_self _) _ _ _ hP hS (lv_sub hl [1, 2, 3, 0] rfl)
    · refine lv_iconst (v := nI 0) hx hb dd_HT_isName_15 (by decide +kernel) ?_
      exact hm_Ei (v := nI 0) hx hb hr rfl hS hP (⟨bz_0 (by rw [nm_ok, tx_sl_len hn, decide_eq_false (by omega)]; rfl), rfl⟩) hlocks (by omega) (by omega) dd_HT_isName_16
set_option maxHeartbeats 4000000 in
set_option maxRecDepth 100000 in
theorem kc_HT_isValue (l : Launch) (B : Nat) (D : va_G) (G : Nat → Nat) (M : hm_M) (a : Nat) (t : List Nat) (ht : tx_S D M a t) (i n : Nat) (hi : i ≤ n) (hn : n ≤ t.length) : Met l yy_HT_isValue ws_HT_isValue ({ frames := 4, cells := 0, slots := 0, locals := 85 }) (hm_Pc B D G M [.ref a, .int (nI i), .int (nI n)]) (hm_Ni B D (fun r M1 => r = nI (bz (vl_ok (tx_sl t i n))) ∧ M1 = M)) (0) (0) (hm_A B) := by
  refine Met.ofW (cc := cd_HT_isValue) (maxL := 4) (ret := ((some FieldType.boolean))) (by decide) rfl ?_
  intro p e s m args below meth c s₁ B0 hml hv
  obtain ⟨rfl, hE, hP⟩ := hv
  have hx := B0.exec
  have hb := B0.bytes
  have hr := B0.returns
  have hts : ∀ w ∈ tb_G, w.before _ s = true := fun w h => atoms_spec (ws := ws_HT_isValue) B0.pre w (List.mem_cons_of_mem _ h)
  have hown : s.vm.findClass "RouteDesk$HeaderText" = some m.cls := findClass_of_methodNamed B0.named
  have hlocks := B0.notSynchronized
  have hRf : (headSpec ws_HT_isValue { frames := 4, cells := 0, slots := 0, locals := 85 }).room.frames = 4 := rfl
  have hRl : (headSpec ws_HT_isValue { frames := 4, cells := 0, slots := 0, locals := 85 }).room.locals = 85 := rfl
  have hRc : (headSpec ws_HT_isValue { frames := 4, cells := 0, slots := 0, locals := 85 }).room.cells = 0 := rfl
  have hRs : (headSpec ws_HT_isValue { frames := 4, cells := 0, slots := 0, locals := 85 }).room.slots = 0 := rfl
  generalize (headSpec ws_HT_isValue { frames := 4, cells := 0, slots := 0, locals := 85 }).room = R at hRf hRl hRc hRs ⊢
  have hS : va_S (hm_A B) s.heap s.heap [] := va_S.rf
  have hl := lv_entry ([.ref a, .int (nI i), .int (nI n)]) (n := 4) (Nat.le_of_ble_eq_true rfl)
  rw [lg_entry_eq]
  generalize (lg_sl ([.ref a, .int (nI i), .int (nI n)]) ++ List.replicate (4 - (lg_sl ([.ref a, .int (nI i), .int (nI n)])).length) Slot.unset).toArray = ls at hl ⊢
  have hl : lv_has ls 4 [(0, .ref a), (1, .int (nI i)), (2, .int (nI n))] := hl
  obtain ⟨v, f, h1, h2, h3, h4, h5⟩ := id ht
  refine lv_iload_n hx hb dd_HT_isValue_0 rfl (lv_at hl 2 rfl) ?_
  refine lv_iload_n hx hb dd_HT_isValue_1 rfl (lv_at hl 1 rfl) ?_
  refine hn_isub hx hb (by omega) dd_HT_isValue_2 ?_
  refine lv_bipush (v := nI 6) hx hb dd_HT_isValue_3 (by decide +kernel) ?_
  refine hn_icmp_le (tgt := 10) hx hb (by omega) (by omega) dd_HT_isValue_5 (by decide) (fun c1 => ?_) (fun c1 => ?_)
  · refine lv_iload_n hx hb dd_HT_isValue_10 rfl (lv_at hl 1 rfl) ?_
    refine lv_istore_n (lv' := [(3, .int (nI i)), (0, .ref a), (1, .int (nI i)), (2, .int (nI n))]) hx hb dd_HT_isValue_11 rfl hl (by decide) rfl (fun ls hl => ?_)
    have lp12 : ∀ (n9 : Nat) (k : Nat), (i ≤ k) → (k ≤ n) → (∀ j, i ≤ j → j < k → ch_part (t.getD j 0) = true) → n - k < n9 → ∀ (H : Heap) (locs : List Loc) (ls : Array Slot), hm_P D cl_W M H → va_S (hm_A B) s.heap H locs → lv_has ls 4 [(0, .ref a), (1, .int (nI i)), (2, .int (nI n)), (3, .int (nI k))] → W p l e R s m ([.ref a, .int (nI i), .int (nI n)] : List Value).toArray below meth c H locs (0) (0) (MQ below (hm_Ni B D (fun r M1 => r = nI (bz (vl_ok (tx_sl t i n))) ∧ M1 = M)) ([.ref a, .int (nI i), .int (nI n)] : List Value).toArray s (0) (0) (hm_A B)) (F0 m 12 ls []) := by
      intro n9
      induction n9 with
      | zero => intro k hk1 hk hk2 hm; exact absurd hm (Nat.not_lt_zero _)
      | succ n9 ih12 =>
        intro k hk1 hk hk2 hm H locs ls hP hS hl
        refine lv_iload_n hx hb dd_HT_isValue_12 rfl (lv_at hl 3 rfl) ?_
        refine lv_iload_n hx hb dd_HT_isValue_13 rfl (lv_at hl 2 rfl) ?_
        refine hn_icmp_ge (tgt := 47) hx hb (by omega) (by omega) dd_HT_isValue_14 (by decide) (fun c2 => ?_) (fun c2 => ?_)
        · refine lv_iconst (v := nI 1) hx hb dd_HT_isValue_47 (by decide +kernel) ?_
          exact hm_Ei (v := nI 1) hx hb hr rfl hS hP (⟨bz_1 (by rw [vl_ok, tx_sl_len hn, decide_eq_true (by omega), tx_all hn (fun j h8 h9 => hk2 j h8 (by omega))]; rfl), rfl⟩) hlocks (by omega) (by omega) dd_HT_isValue_48
        · refine lv_aload_n hx hb dd_HT_isValue_17 rfl (lv_at hl 0 rfl) ?_
          refine lv_iload_n hx hb dd_HT_isValue_18 rfl (lv_at hl 3 rfl) ?_
          refine hm_ci hS (hm_rV 1 (As := [.int (nI k)]) (rest := []) ⟨hx, hb, hml, hown, hts⟩ hE hS hP (kc_ST_charAt l B D G M a t ht k (by omega)) rfl h1 tw_619 tw_638 tw_617 tw_618 tw_39 (by decide +kernel) rfl rfl ⟨by show 3 + 1 ≤ R.frames; omega, by show 8 + (2 + 11) + 64 ≤ R.locals; omega⟩ rfl hl.1 rfl (Nat.le_of_ble_eq_true rfl) dd_HT_isValue_19 ⟨by omega, by omega⟩) (fun r3 M4 H locs hw5 hP hS => ?_)
          refine W.widen (k := 0) (n := 0) (by omega) (by omega) ?_
          obtain ⟨rfl, eM4⟩ := hw5
          rw [eM4] at hP
          have bM4 := tx_lt h4 k
          refine hm_ci hS (hm_rS 1 (As := [.int (nI (t.getD k 0))]) (rest := []) ⟨hx, hb, hml, hown, hts⟩ hE hS hP (kc_HT_isSmallLetter l B D G M (t.getD k 0) (by omega)) tw_641 tw_639 tw_640 tw_63 (by decide +kernel) rfl rfl ⟨by show 0 + 1 ≤ R.frames; omega, by show 8 + (1 + 11) + 0 ≤ R.locals; omega⟩ rfl hl.1 rfl (Nat.le_of_ble_eq_true rfl) dd_HT_isValue_22 ⟨by omega, by omega⟩) (fun r6 M7 H locs hw8 hP hS => ?_)
          refine W.widen (k := 0) (n := 0) (by omega) (by omega) ?_
          obtain ⟨rfl, eM7⟩ := hw8
          rw [eM7] at hP
          refine hn_if_ne (tgt := 41) hx hb (bz_b _) dd_HT_isValue_25 (by decide) (fun c9 => ?_) (fun c9 => ?_)
          · have c4 : ch_part (t.getD k 0) = true := by rw [ch_part, bz_t c9]; rfl
            refine lv_iinc (v := nI (k + 1)) (lv' := [(3, .int (nI (k + 1))), (0, .ref a), (1, .int (nI i)), (2, .int (nI n))]) hx hb dd_HT_isValue_41 hl (k := 3) rfl (nI_1 k) (by decide) rfl (fun ls hl => ?_)
            refine lv_goto (tgt := 12) hx hb dd_HT_isValue_44 (by decide) ?_
            exact ih12 (k + 1) (by omega) (by omega) (fun j h8 h9 => by
                by_cases q : j = k
                · subst q; exact c4
                · exact hk2 j h8 (by omega)) (by omega) _ _ _ hP hS (lv_sub hl [1, 2, 3, 0] rfl)
          · have c5 := bz_f c9
            refine lv_aload_n hx hb dd_HT_isValue_28 rfl (lv_at hl 0 rfl) ?_
            refine lv_iload_n hx hb dd_HT_isValue_29 rfl (lv_at hl 3 rfl) ?_
            refine hm_ci hS (hm_rV 1 (As := [.int (nI k)]) (rest := []) ⟨hx, hb, hml, hown, hts⟩ hE hS hP (kc_ST_charAt l B D G M a t ht k (by omega)) rfl h1 tw_619 tw_638 tw_617 tw_618 tw_39 (by decide +kernel) rfl rfl ⟨by show 3 + 1 ≤ R.frames; omega, by show 8 + (2 + 11) + 64 ≤ R.locals; omega⟩ rfl hl.1 rfl (Nat.le_of_ble_eq_true rfl) dd_HT_isValue_30 ⟨by omega, by omega⟩) (fun r10 M11 H locs hw12 hP hS => ?_)
            refine W.widen (k := 0) (n := 0) (by omega) (by omega) ?_
            obtain ⟨rfl, eM11⟩ := hw12
            rw [eM11] at hP
            have bM11 := tx_lt h4 k
            refine hm_ci hS (hm_rS 1 (As := [.int (nI (t.getD k 0))]) (rest := []) ⟨hx, hb, hml, hown, hts⟩ hE hS hP (kc_HT_isDigit l B D G M (t.getD k 0) (by omega)) tw_647 tw_645 tw_646 tw_63 (by decide +kernel) rfl rfl ⟨by show 0 + 1 ≤ R.frames; omega, by show 8 + (1 + 11) + 0 ≤ R.locals; omega⟩ rfl hl.1 rfl (Nat.le_of_ble_eq_true rfl) dd_HT_isValue_33 ⟨by omega, by omega⟩) (fun r13 M14 H locs hw15 hP hS => ?_)
            refine W.widen (k := 0) (n := 0) (by omega) (by omega) ?_
            obtain ⟨rfl, eM14⟩ := hw15
            rw [eM14] at hP
            refine hn_if_ne (tgt := 41) hx hb (bz_b _) dd_HT_isValue_36 (by decide) (fun c16 => ?_) (fun c16 => ?_)
            · have c4 : ch_part (t.getD k 0) = true := by rw [ch_part, bz_t c16, Bool.or_true]
              refine lv_iinc (v := nI (k + 1)) (lv' := [(3, .int (nI (k + 1))), (0, .ref a), (1, .int (nI i)), (2, .int (nI n))]) hx hb dd_HT_isValue_41 hl (k := 3) rfl (nI_1 k) (by decide) rfl (fun ls hl => ?_)
              refine lv_goto (tgt := 12) hx hb dd_HT_isValue_44 (by decide) ?_
              exact ih12 (k + 1) (by omega) (by omega) (fun j h8 h9 => by
                  by_cases q : j = k
                  · subst q; exact c4
                  · exact hk2 j h8 (by omega)) (by omega) _ _ _ hP hS (lv_sub hl [1, 2, 3, 0] rfl)
            · have c4 : ch_part (t.getD k 0) = false := by rw [ch_part, c5, bz_f c16]; rfl
              refine lv_iconst (v := nI 0) hx hb dd_HT_isValue_39 (by decide +kernel) ?_
              exact hm_Ei (v := nI 0) hx hb hr rfl hS hP (⟨bz_0 (by rw [vl_ok, tx_nall hn hk1 (by omega) c4, Bool.and_false]), rfl⟩) hlocks (by omega) (by omega) dd_HT_isValue_40
    exact lp12 _ i (Nat.le_refl _) (hi) (fun j h8 h9 => absurd h9 (by omega)) (Nat.lt_succ_self _) _ _ _ hP hS (lv_sub hl [1, 2, 3, 0] rfl)
  · refine lv_iconst (v := nI 0) hx hb dd_HT_isValue_8 (by decide +kernel) ?_
    exact hm_Ei (v := nI 0) hx hb hr rfl hS hP (⟨bz_0 (by rw [vl_ok, tx_sl_len hn, decide_eq_false (by omega)]; rfl), rfl⟩) hlocks (by omega) (by omega) dd_HT_isValue_9
