/-! texts, as the model reads them -/
def pa_g (b : Bool) : List Nat → Bool
  | [] => true
  | c :: t => (!ch_wild c || (b && decide (t.length = 0 ∨ t.getD 0 0 = 46))) && pa_g (c == 46) t
theorem pa_w : ∀ (t : List Nat) (w : List Nat) (ws : List (List Nat)), wd_sp 46 t = w :: ws → (pa_g false t = (!w.any ch_wild && ws.all pt_ok)) ∧ (pa_g true t = (pt_ok w && ws.all pt_ok))
  | [], w, ws, h => by
    rw [wd_sp] at h
    obtain ⟨rfl, rfl⟩ := List.cons.inj h
    exact ⟨rfl, rfl⟩
  | c :: t, w, ws, h => by
    obtain ⟨w1, ws1, h1⟩ : ∃ w1 ws1, wd_sp 46 t = w1 :: ws1 := by
      cases hh : wd_sp 46 t with
      | nil => exact absurd hh (wd_sp_ne 46 t)
      | cons a b => exact ⟨a, b, rfl⟩
    have ih := pa_w t w1 ws1 h1
    rw [wd_sp] at h
    by_cases e : c = 46
    · rw [if_pos e, h1] at h
      obtain ⟨rfl, rfl⟩ := List.cons.inj h
      subst e
      rw [pa_g, pa_g]
      have e1 : ch_wild 46 = false := by decide
      have e2 : (46 == 46) = true := by decide
      rw [e1, e2, ih.2]
      simp [pt_ok]
    · rw [if_neg e, h1] at h
      obtain ⟨rfl, rfl⟩ := List.cons.inj h
      rw [pa_g, pa_g, show (c == 46) = false by simpa using e, ih.1]
      cases hw : ch_wild c
      · simp only [Bool.not_false, Bool.true_or, Bool.true_and, List.any_cons, hw, Bool.false_or, pt_ok, List.length_cons, true_and]
        by_cases hz : w1 = []
        · subst hz; simp
        · have : 1 < w1.length + 1 := by have := List.length_pos_iff.mpr hz; omega
          simp [this]
      · simp only [Bool.not_true, Bool.false_or, Bool.false_and, List.any_cons, hw, Bool.true_or, pt_ok, List.length_cons, Bool.true_and, Bool.and_true, true_and]
        by_cases hz : w1 = []
        · subst hz
          have hd : t.length = 0 ∨ t.getD 0 0 = 46 := by
            cases t with
            | nil => exact Or.inl rfl
            | cons d t2 =>
              right
              rw [wd_sp] at h1
              by_cases e2 : d = 46
              · exact e2
              · rw [if_neg e2] at h1
                split at h1 <;> cases h1
          rw [decide_eq_true hd]
          simp
        · have hl : 1 < w1.length + 1 := by have := List.length_pos_iff.mpr hz; omega
          have hd : ¬ (t.length = 0 ∨ t.getD 0 0 = 46) := by
            intro h9
            apply hz
            rcases h9 with h9 | h9
            · rw [List.length_eq_zero_iff.mp h9, wd_sp] at h1
              exact (List.cons.inj h1).1.symm
            · cases t with
              | nil => rw [wd_sp] at h1; exact (List.cons.inj h1).1.symm
              | cons d t2 =>
                have : d = 46 := h9
                rw [wd_sp, if_pos this] at h1
                exact (List.cons.inj h1).1.symm
          rw [decide_eq_false hd, decide_eq_true hl]
          rfl
theorem pa_all (t : List Nat) : (wd_sp 46 t).all pt_ok = pa_g true t := by
  cases hh : wd_sp 46 t with
  | nil => exact absurd hh (wd_sp_ne 46 t)
  | cons a b => rw [(pa_w t a b hh).2]; rfl
theorem pa_st {t : List Nat} {k : Nat} {b : Bool} (h : k < t.length) : pa_g b (t.drop k) = ((!ch_wild (t.getD k 0) || (b && decide (t.length ≤ k + 1 ∨ t.getD (k + 1) 0 = 46))) && pa_g (t.getD k 0 == 46) (t.drop (k + 1))) := by
  rw [tx_drop_cons h, pa_g]
  congr 4
  rw [List.length_drop]
  have : (t.drop (k + 1)).getD 0 0 = t.getD (k + 1) 0 := by
    rw [List.getD_eq_getElem?_getD, List.getElem?_drop, ← List.getD_eq_getElem?_getD]
  rw [this]
  apply propext
  constructor
  · rintro (h9 | h9)
    · left; omega
    · exact Or.inr h9
  · rintro (h9 | h9)
    · left; omega
    · exact Or.inr h9
/-- the end of a run of letters -/
def rn_E (p : Nat → Bool) (t : List Nat) (a e : Nat) : Prop := a ≤ e ∧ e ≤ t.length ∧ (∀ j, a ≤ j → j < e → p (t.getD j 0) = true) ∧ (e < t.length → p (t.getD e 0) = false)
theorem rn_ex (p : Nat → Bool) (t : List Nat) : ∀ (n a : Nat), t.length - a ≤ n → a ≤ t.length → ∃ e, rn_E p t a e
  | 0, a, h, ha => ⟨a, Nat.le_refl _, ha, fun j h1 h2 => absurd h2 (by omega), fun h1 => absurd h1 (by omega)⟩
  | n + 1, a, h, ha => by
    by_cases e : a < t.length ∧ p (t.getD a 0) = true
    · obtain ⟨x, h1, h2, h3, h4⟩ := rn_ex p t n (a + 1) (by omega) (by omega)
      refine ⟨x, by omega, h2, fun j h5 h6 => ?_, h4⟩
      by_cases h7 : j = a
      · rw [h7]; exact e.2
      · exact h3 j (by omega) h6
    · refine ⟨a, Nat.le_refl _, ha, fun j h1 h2 => absurd h2 (by omega), fun h1 => ?_⟩
      cases hp : p (t.getD a 0) with
      | false => rfl
      | true => exact absurd ⟨h1, hp⟩ e
/-- what is left of a rule, from a place on where a comma or the end must stand -/
def rs_i (t : List Nat) (n a : Nat) : Bool := decide (t.length ≤ a ∨ t.getD a 0 = 44) && ru_go n (wd_from 44 t (a + 1))
theorem sm_44 : ch_small 44 = false := by decide
theorem sm_61 : ch_small 61 = false := by decide
theorem pt_44 : ch_part 44 = false := by decide
theorem rs_wd {t : List Nat} {b : Nat} (hb : b ≤ t.length) : ∃ i, rn_E (fun c => c != 44) t b i ∧ wd_from 44 t b = tx_sl t b i :: wd_from 44 t (i + 1) := by
  obtain ⟨i, h⟩ := rn_ex (fun c => c != 44) t _ b (Nat.le_refl _) hb
  obtain ⟨h1, h2, h3, h4⟩ := id h
  refine ⟨i, h, wd_step h1 h2 (fun j h5 h6 => by simpa using h3 j h5 h6) ?_⟩
  by_cases e : i = t.length
  · exact Or.inl e
  · right; simpa using h4 (by omega)
theorem rs_go {t : List Nat} {n a : Nat} (ha : a < t.length) (hc : t.getD a 0 = 44) : ∃ i, rn_E (fun c => c != 44) t (a + 1) i ∧ rs_i t n a = (decide (n < 4) && (pr_ok (tx_sl t (a + 1) i) false && ru_go (n + 1) (wd_from 44 t (i + 1)))) ∧ wd_from 44 t (a + 1) = tx_sl t (a + 1) i :: wd_from 44 t (i + 1) := by
  obtain ⟨i, h1, h2⟩ := rs_wd (t := t) (b := a + 1) (by omega)
  refine ⟨i, h1, ?_, h2⟩
  rw [rs_i, decide_eq_true (Or.inr hc), h2, ru_go, Bool.true_and]
theorem rs_lt {t : List Nat} {n a : Nat} (ha : a < t.length) (hc : ¬ t.getD a 0 = 44) : rs_i t n a = false := by
  rw [rs_i, decide_eq_false (fun h => h.elim (fun h => absurd h (by omega)) hc)]; rfl
theorem rs_ge {t : List Nat} {n a : Nat} (ha : t.length ≤ a) : rs_i t n a = true := by
  rw [rs_i, decide_eq_true (Or.inl ha), wd_end _ _ (by omega)]; rfl
theorem rs_4 {t : List Nat} {n a : Nat} (ha : a < t.length) (hc : t.getD a 0 = 44) (hn : 4 ≤ n) : rs_i t n a = false := by
  obtain ⟨i, h1, h2, -⟩ := rs_go (n := n) ha hc
  rw [h2, decide_eq_false (by omega)]; rfl
theorem rn_len {p : Nat → Bool} {t : List Nat} {a e : Nat} (h : rn_E p t a e) : (tx_sl t a e).length = e - a := tx_sl_len h.2.1
/-- a run of small letters lies within the word -/
theorem rn_in {p : Nat → Bool} {t : List Nat} {b e i : Nat} (hp : p 44 = false) (h : rn_E p t b e) (hi : rn_E (fun c => c != 44) t b i) : e ≤ i := by
  rcases Nat.lt_or_ge i e with h9 | h9
  · have h1 := h.2.2.1 i hi.1 h9
    have h2 := hi.2.2.2 (by have := h.2.1; omega)
    have h3 : t.getD i 0 = 44 := by simpa using h2
    rw [h3, hp] at h1; cases h1
  · exact h9
theorem rs_nm {t : List Nat} {b e i : Nat} (h : rn_E ch_small t b e) (hi : rn_E (fun c => c != 44) t b i) :
    nm_ok (pr_nm (tx_sl t b i)) = (decide (1 ≤ e - b ∧ e - b < 7) && decide (e = i ∨ t.getD e 0 = 61)) ∧ ((e = i ∨ t.getD e 0 = 61) → pr_nm (tx_sl t b i) = tx_sl t b e ∧ pr_vl (tx_sl t b i) = tx_sl t e i) := by
  have hei := rn_in sm_44 h hi
  have hil := hi.2.1
  have h61 : ∀ j, b ≤ j → j < e → ¬ t.getD j 0 = 61 := fun j h1 h2 h3 => by
    have := h.2.2.1 j h1 h2
    rw [h3, sm_61] at this; cases this
  by_cases hc : e = i ∨ t.getD e 0 = 61
  · have hq := pr_take h.1 hei hil h61 (fun h9 => hc.resolve_left (by omega))
    refine ⟨?_, fun _ => hq⟩
    rw [hq.1, nm_ok, tx_sl_len (by omega), tx_all (by omega) h.2.2.1, decide_eq_true hc]
    congr 1
    rw [decide_eq_decide]; omega
  · refine ⟨?_, fun h9 => absurd h9 hc⟩
    rw [decide_eq_false hc, Bool.and_false]
    obtain ⟨k, k1, k2, k3, k4⟩ := rn_ex (fun c => c != 61) (t.take i) _ b (Nat.le_refl _) (by rw [List.length_take]; have := h.1; omega)
    have hl : (t.take i).length = i := by rw [List.length_take]; omega
    have hg : ∀ j, j < i → (t.take i).getD j 0 = t.getD j 0 := fun j hj => by
      rw [List.getD_eq_getElem?_getD, List.getElem?_take, if_pos hj, ← List.getD_eq_getElem?_getD]
    have hk : e < k := by
      rcases Nat.lt_or_ge e k with h9 | h9
      · exact h9
      · exfalso
        have h8 := k4 (by omega)
        rw [hg k (by omega)] at h8
        have h7 : t.getD k 0 = 61 := by simpa using h8
        by_cases h6 : k = e
        · exact hc (Or.inr (by rw [← h6]; exact h7))
        · exact h61 k k1 (by omega) h7
    have hq := pr_take (t := t) (a := b) (k := k) (n := i) k1 (by omega) hil (fun j h1 h2 h3 => by
      have := k3 j h1 h2
      rw [hg j (by omega), h3] at this; exact absurd this (by decide)) (fun h9 => by
      have := k4 (by omega)
      rw [hg k (by omega)] at this
      simpa using this)
    rw [hq.1, nm_ok, tx_nall (by omega) h.1 hk (h.2.2.2 (by omega)), Bool.and_false]
theorem rs_1 {t : List Nat} {n a e : Nat} (ha : a < t.length) (hc : t.getD a 0 = 44) (h : rn_E ch_small t (a + 1) e) (hno : ¬ (e < t.length ∧ t.getD e 0 = 61)) : rs_i t n a = (decide (n < 4) && (decide (1 ≤ e - (a + 1) ∧ e - (a + 1) < 7) && rs_i t (n + 1) e)) := by
  obtain ⟨i, h1, h2, -⟩ := rs_go (n := n) ha hc
  have hei := rn_in sm_44 h h1
  have hil := h1.2.1
  rw [h2]
  congr 1
  have hq := rs_nm h h1
  by_cases hi : e = i
  · subst hi
    have h3 := hq.2 (Or.inl rfl)
    rw [pr_ok, hq.1, h3.2, tx_nil (by omega) hil, decide_eq_true (Or.inl rfl : e = e ∨ _), Bool.and_true]
    simp only [Bool.not_false, Bool.and_true]
    congr 1
    rw [rs_i, decide_eq_true, Bool.true_and]
    by_cases h9 : e < t.length
    · exact Or.inr (by simpa using h1.2.2.2 h9)
    · exact Or.inl (by omega)
  · have h3 : ¬ t.getD e 0 = 61 := fun h9 => hno ⟨by omega, h9⟩
    rw [pr_ok, hq.1, decide_eq_false (p := e = i ∨ t.getD e 0 = 61) (fun h9 => h9.elim hi h3), Bool.and_false, Bool.false_and, Bool.false_and]
    rw [rs_lt (by omega) (by have := h1.2.2.1 e h.1 (by omega); simpa using this), Bool.and_false]
theorem rs_2 {t : List Nat} {n a e x : Nat} (ha : a < t.length) (hc : t.getD a 0 = 44) (h : rn_E ch_small t (a + 1) e) (he : e < t.length) (h6 : t.getD e 0 = 61) (hx : rn_E ch_part t (e + 1) x) : rs_i t n a = (decide (n < 4) && (decide (1 ≤ e - (a + 1) ∧ e - (a + 1) < 7) && (decide (x - (e + 1) < 7) && rs_i t (n + 1) x))) := by
  obtain ⟨i, h1, h2, -⟩ := rs_go (n := n) ha hc
  have hei := rn_in sm_44 h h1
  have hil := h1.2.1
  rw [h2]
  congr 1
  have hq := rs_nm h h1
  have hlt : e < i := by
    rcases Nat.lt_or_ge e i with h9 | h9
    · exact h9
    · have : e = i := by omega
      subst this
      have := h1.2.2.2 he
      rw [h6] at this; exact absurd this (by decide)
  have h3 := hq.2 (Or.inr h6)
  have hi2 : rn_E (fun c => c != 44) t (e + 1) i := ⟨by omega, hil, fun j h8 h9 => h1.2.2.1 j (by have := h.1; omega) h9, h1.2.2.2⟩
  have hxi := rn_in pt_44 hx hi2
  rw [pr_ok, hq.1, h3.2, tx_sl_hd hlt hil, decide_eq_true (Or.inr h6 : e = i ∨ _), Bool.and_true, Bool.and_assoc]
  congr 1
  show (vl_ok (tx_sl t (e + 1) i) && _) = _
  by_cases hi : x = i
  · subst hi
    rw [vl_ok, tx_sl_len hil, tx_all hil hx.2.2.1, Bool.and_true]
    congr 1
    · rw [decide_eq_decide]; omega
    · rw [rs_i, decide_eq_true, Bool.true_and]
      by_cases h9 : x < t.length
      · exact Or.inr (by simpa using h1.2.2.2 h9)
      · exact Or.inl (by omega)
  · rw [vl_ok, tx_nall hil hx.1 (by omega) (hx.2.2.2 (by omega)), Bool.and_false, Bool.false_and]
    rw [rs_lt (by omega) (by have := hi2.2.2.1 x hx.1 (by omega); simpa using this), Bool.and_false]
theorem rs_0 {t : List Nat} {n a e : Nat} (ha : a < t.length) (hc : t.getD a 0 = 44) (h : rn_E ch_small t (a + 1) e) (hno : ¬ (1 ≤ e - (a + 1) ∧ e - (a + 1) < 7)) : rs_i t n a = false := by
  by_cases h9 : e < t.length ∧ t.getD e 0 = 61
  · obtain ⟨x, hx⟩ := rn_ex ch_part t _ (e + 1) (Nat.le_refl _) (by omega)
    rw [rs_2 ha hc h h9.1 h9.2 hx, decide_eq_false hno, Bool.false_and, Bool.and_false]
  · rw [rs_1 ha hc h h9, decide_eq_false hno, Bool.false_and, Bool.and_false]
theorem ru_hd3 {t : List Nat} (h : 2 < t.length) : ru_hd t = decide ((t.getD 0 0 = 97 ∧ t.getD 1 0 = 108 ∧ t.getD 2 0 = 108) ∨ (t.getD 0 0 = 97 ∧ t.getD 1 0 = 110 ∧ t.getD 2 0 = 121)) := by
  match t, h with
  | a :: b :: c :: r, _ => simp [ru_hd, List.take]
theorem ru_hd2 {t : List Nat} (h : t.length ≤ 2) : ru_hd t = false := by
  rw [ru_hd, decide_eq_false (fun e => by have := congrArg List.length e; rw [List.length_take] at this; simp at this; omega), decide_eq_false (fun e => by have := congrArg List.length e; rw [List.length_take] at this; simp at this; omega)]
  rfl
/-- words as longs -/
theorem cdn_sn (w : List Nat) (c : Nat) : cdn (w ++ [c]) = cdn w * 256 + c := by rw [cdn, List.foldl_append]; rfl
theorem cdn_fl (w : List Nat) (h : ∀ c ∈ w, c < 128) : ∀ a, w.foldl (fun a c => a * 256 + c) a < (a + 1) * 256 ^ w.length := by
  induction w with
  | nil => intro a; show a < (a + 1) * 1; omega
  | cons c w ih =>
    intro a
    have h1 := ih (fun x hx => h x (List.mem_cons_of_mem _ hx)) (a * 256 + c)
    have h2 := h c List.mem_cons_self
    rw [List.length_cons, Nat.pow_succ, List.foldl_cons]
    refine Nat.lt_of_lt_of_le h1 ?_
    rw [Nat.mul_comm (256 ^ w.length), ← Nat.mul_assoc]
    exact Nat.mul_le_mul_right _ (by omega)
theorem cdn_lt {w : List Nat} (h : ∀ c ∈ w, c < 128) : cdn w < 256 ^ w.length := by
  have := cdn_fl w h 0
  rw [Nat.zero_add, Nat.one_mul] at this
  exact this
theorem cdn_6 {w : List Nat} (h : ∀ c ∈ w, c < 128) (hl : w.length ≤ 6) : cdn w < 2 ^ 48 := by
  refine Nat.lt_of_lt_of_le (cdn_lt h) ?_
  have := Nat.pow_le_pow_right (show 0 < 256 by decide) hl
  exact Nat.le_trans this (by decide)
/-- a step of the reading -/
theorem cd_c : ∀ c, c < 128 → (nI c).toInt64 = lN c := by decide +kernel
set_option maxRecDepth 8000 in
theorem cd_st {w : List Nat} {c : Nat} (hc : c < 128) : (cd w <<< ((nI 8).toInt64 &&& 63)) ||| (nI c).toInt64 = cd (w ++ [c]) := by
  have e1 := cd_c c hc
  rw [cd, cd, wb_shl _ (by decide), e1, cdn_sn]
  apply wb_inj
  rw [Int64.toBitVec_or, wb_tb, wb_tb, wb_tb]
  apply BitVec.eq_of_toNat_eq
  rw [BitVec.toNat_or, BitVec.toNat_ofNat, BitVec.toNat_ofNat, BitVec.toNat_ofNat, Nat.mod_eq_of_lt (show c < 2 ^ 64 by omega)]
  have h1 : cdn w * 2 ^ 8 % 2 ^ 64 = (cdn w % 2 ^ 56) <<< 8 := by rw [Nat.shiftLeft_eq]; omega
  have h2 : (cdn w * 256 + c) % 2 ^ 64 = (cdn w % 2 ^ 56) <<< 8 + c := by rw [Nat.shiftLeft_eq]; omega
  rw [h1, h2, Nat.shiftLeft_add_eq_or_of_lt (by omega)]
theorem lN_inj {a b : Nat} (ha : a < 2 ^ 64) (hb : b < 2 ^ 64) (h : lN a = lN b) : a = b := by
  have := congrArg (fun x => x.toBitVec.toNat) h
  simp only [wb_tb, BitVec.toNat_ofNat] at this
  omega
theorem cdn_inj : ∀ (n : Nat) (u w : List Nat), u.length + w.length ≤ n → (∀ c ∈ u, 0 < c ∧ c < 128) → (∀ c ∈ w, 0 < c ∧ c < 128) → cdn u = cdn w → u = w
  | 0, u, w, h, _, _, _ => by rw [List.length_eq_zero_iff.mp (by omega : u.length = 0), List.length_eq_zero_iff.mp (by omega : w.length = 0)]
  | n + 1, u, w, h, hu, hw, e => by
    rcases List.eq_nil_or_concat u with rfl | ⟨u1, c, rfl⟩
    · rcases List.eq_nil_or_concat w with rfl | ⟨w1, d, rfl⟩
      · rfl
      · have := hw d (by simp)
        rw [List.concat_eq_append, cdn_sn] at e
        have e : 0 = cdn w1 * 256 + d := e
        omega
    · rcases List.eq_nil_or_concat w with rfl | ⟨w1, d, rfl⟩
      · have := hu c (by simp)
        rw [List.concat_eq_append, cdn_sn] at e
        have e : cdn u1 * 256 + c = 0 := e
        omega
      · have h1 := hu c (by simp)
        have h2 := hw d (by simp)
        simp only [List.concat_eq_append] at *
        rw [cdn_sn, cdn_sn] at e
        rw [List.length_append, List.length_append, List.length_singleton, List.length_singleton] at h
        rw [cdn_inj n u1 w1 (by omega) (fun x hx => hu x (List.mem_append_left _ hx)) (fun x hx => hw x (List.mem_append_left _ hx)) (by omega), show c = d by omega]
theorem cd_eq {u w : List Nat} (hu : ∀ c ∈ u, 0 < c ∧ c < 128) (hw : ∀ c ∈ w, 0 < c ∧ c < 128) (lu : u.length ≤ 6) (lw : w.length ≤ 6) : cd u = cd w ↔ u = w := by
  constructor
  · intro h
    have h1 := cdn_6 (fun c hc => (hu c hc).2) lu
    have h2 := cdn_6 (fun c hc => (hw c hc).2) lw
    exact cdn_inj _ u w (Nat.le_refl _) hu hw (lN_inj (by omega) (by omega) h)
  · intro h; rw [h]
theorem cd_ne {w : List Nat} (h : ∀ c ∈ w, c < 128) (hl : w.length ≤ 6) : ¬ cd w = -1 := fun e => by
  have h1 := cdn_6 h hl
  have e : lN (cdn w) = lN (2 ^ 64 - 1) := e
  have := lN_inj (by omega) (by omega) e
  omega
theorem sm_r {c : Nat} (h : ch_small c = true) : 0 < c ∧ c < 128 := by have := of_decide_eq_true h; omega
theorem pt_r {c : Nat} (h : ch_part c = true) : 0 < c ∧ c < 128 := by
  rw [ch_part, Bool.or_eq_true] at h
  rcases h with h | h
  · exact sm_r h
  · have := of_decide_eq_true h; omega
theorem rn_r {p : Nat → Bool} {t : List Nat} {a e : Nat} (h : rn_E p t a e) (hp : ∀ c, p c = true → 0 < c ∧ c < 128) : ∀ c ∈ tx_sl t a e, 0 < c ∧ c < 128 := fun c hc => by
  obtain ⟨j, h1, h2, h3⟩ := tx_sl_mem h.2.1 hc
  rw [← h3]; exact hp _ (h.2.2.1 j h1 h2)
theorem nm_rr {w : List Nat} (h : nm_ok w = true) : (∀ c ∈ w, 0 < c ∧ c < 128) ∧ w.length ≤ 6 := by
  rw [nm_ok, Bool.and_eq_true] at h
  exact ⟨fun c hc => sm_r (List.all_eq_true.mp h.2 c hc), (of_decide_eq_true h.1).2⟩
theorem vl_rr {w : List Nat} (h : vl_ok w = true) : (∀ c ∈ w, 0 < c ∧ c < 128) ∧ w.length ≤ 6 := by
  rw [vl_ok, Bool.and_eq_true] at h
  exact ⟨fun c hc => pt_r (List.all_eq_true.mp h.2 c hc), of_decide_eq_true h.1⟩
theorem tx_sn {t : List Nat} {a e : Nat} (ha : a ≤ e) (he : e < t.length) : tx_sl t a (e + 1) = tx_sl t a e ++ [t.getD e 0] := by
  rw [tx_sl, List.take_add_one, List.getElem?_eq_getElem he, List.drop_append_of_le_length (by rw [List.length_take]; omega)]
  rw [List.getD_eq_getElem?_getD, List.getElem?_eq_getElem he]
  rfl
theorem tx_nl {t : List Nat} {a : Nat} (ha : a ≤ t.length) : tx_sl t a a = [] := List.length_eq_zero_iff.mp (by rw [tx_sl_len ha]; omega)
theorem pa_ok {t : List Nat} {k : Nat} (h : k < t.length) (hc : ¬ (t.getD k 0 = 42 ∨ t.getD k 0 = 35) ∨ ((k = 0 ∨ t.getD (k - 1) 0 = 46) ∧ (t.length ≤ k + 1 ∨ t.getD (k + 1) 0 = 46))) : pa_g (decide (k = 0 ∨ t.getD (k - 1) 0 = 46)) (t.drop k) = pa_g (decide (k + 1 = 0 ∨ t.getD (k + 1 - 1) 0 = 46)) (t.drop (k + 1)) := by
  rw [pa_st h]
  have e : (t.getD k 0 == 46) = decide (k + 1 = 0 ∨ t.getD (k + 1 - 1) 0 = 46) := by
    rw [Nat.add_sub_cancel]
    by_cases h9 : t.getD k 0 = 46
    · rw [decide_eq_true (Or.inr h9), h9]; rfl
    · rw [decide_eq_false (by omega)]; simpa using h9
  rw [e]
  have e2 : (!ch_wild (t.getD k 0) || (decide (k = 0 ∨ t.getD (k - 1) 0 = 46) && decide (t.length ≤ k + 1 ∨ t.getD (k + 1) 0 = 46))) = true := by
    rcases hc with hc | ⟨h1, h2⟩
    · have : ch_wild (t.getD k 0) = false := by
        rw [ch_wild, Bool.or_eq_false_iff]
        exact ⟨by simpa using fun h9 => hc (Or.inl h9), by simpa using fun h9 => hc (Or.inr h9)⟩
      rw [this]; rfl
    · rw [decide_eq_true h1, decide_eq_true h2]; simp
  rw [e2, Bool.true_and]
theorem pa_no {t : List Nat} {k : Nat} (h : k < t.length) (hw : t.getD k 0 = 42 ∨ t.getD k 0 = 35) (hc : ¬ ((k = 0 ∨ t.getD (k - 1) 0 = 46) ∧ (t.length ≤ k + 1 ∨ t.getD (k + 1) 0 = 46))) : pa_g (decide (k = 0 ∨ t.getD (k - 1) 0 = 46)) (t.drop k) = false := by
  rw [pa_st h]
  have e1 : ch_wild (t.getD k 0) = true := by
    rcases hw with hw | hw <;> rw [hw] <;> rfl
  have e2 : (decide (k = 0 ∨ t.getD (k - 1) 0 = 46) && decide (t.length ≤ k + 1 ∨ t.getD (k + 1) 0 = 46)) = false := by
    rw [← Bool.decide_and]; exact decide_eq_false hc
  rw [e1, e2]; rfl

set_option maxHeartbeats 4000000 in
set_option maxRecDepth 100000 in
theorem kc_MO_isPattern (l : Launch) (B : Nat) (D : va_G) (G : Nat → Nat) (M : hm_M) (P O : Nat → Nat) (I : Nat → Int32) (A : Nat → Nat → Int32) (L : Nat → Nat → Int64) (hD : mo_D B D P O M I A L) (t : List Nat) (hT : tpS (I 2) (A 1) t) : Met l yy_MO_isPattern ws_MO_isPattern ({ frames := 0, cells := 0, slots := 0, locals := 0 }) (hm_Pc B D G M [.ref (P 0)]) (hm_Ni B D (fun r M1 => r = nI (bz ((wd_sp 46 t).all pt_ok)) ∧ M1 = M)) (0) (0) (hm_A B) := by
  refine Met.ofW (cc := cd_MO_isPattern) (maxL := 2) (ret := ((some FieldType.boolean))) (by decide) rfl ?_
  intro p e s m args below meth c s₁ B0 hml hv
  obtain ⟨rfl, hE, hP⟩ := hv
  have hx := B0.exec
  have hb := B0.bytes
  have hr := B0.returns
  have hts : ∀ w ∈ tb_G, w.before _ s = true := fun w h => atoms_spec (ws := ws_MO_isPattern) B0.pre w (List.mem_cons_of_mem _ h)
  have hown : s.vm.findClass "RouteDeskModel" = some m.cls := findClass_of_methodNamed B0.named
  have hlocks := B0.notSynchronized
  have hRf : (headSpec ws_MO_isPattern { frames := 0, cells := 0, slots := 0, locals := 0 }).room.frames = 0 := rfl
  have hRl : (headSpec ws_MO_isPattern { frames := 0, cells := 0, slots := 0, locals := 0 }).room.locals = 0 := rfl
  have hRc : (headSpec ws_MO_isPattern { frames := 0, cells := 0, slots := 0, locals := 0 }).room.cells = 0 := rfl
  have hRs : (headSpec ws_MO_isPattern { frames := 0, cells := 0, slots := 0, locals := 0 }).room.slots = 0 := rfl
  generalize (headSpec ws_MO_isPattern { frames := 0, cells := 0, slots := 0, locals := 0 }).room = R at hRf hRl hRc hRs ⊢
  have hS : va_S (hm_A B) s.heap s.heap [] := va_S.rf
  have hl := lv_entry ([.ref (P 0)]) (n := 2) (Nat.le_of_ble_eq_true rfl)
  rw [lg_entry_eq]
  generalize (lg_sl ([.ref (P 0)]) ++ List.replicate (2 - (lg_sl ([.ref (P 0)])).length) Slot.unset).toArray = ls at hl ⊢
  have hl : lv_has ls 2 [(0, .ref (P 0))] := hl
  have t16 : (nI 16).toInt = 16 := by decide
  have tm1 : (-1 : Int32).toInt = -1 := by decide
  have t0 : (nI 0).toInt = 0 := by decide
  have t2 : (nI 2).toInt = 2 := by decide
  have t3 : (nI 3).toInt = 3 := by decide
  have t1 : (nI 1).toInt = 1 := by decide
  have t4 : (nI 4).toInt = 4 := by decide
  obtain ⟨p0, p1, p3, p4, p5, p7, p8, p9, p10, p11, p14, p15, p16, p17, p19, p20, p21, po, pb⟩ := id hD
  obtain ⟨ti1, ti2, ti3, ti4⟩ := id hT
  refine lv_iconst (v := nI 0) hx hb dd_MO_isPattern_0 (by decide +kernel) ?_
  refine lv_istore_n (lv' := [(1, .int (nI 0)), (0, .ref (P 0))]) hx hb dd_MO_isPattern_1 rfl hl (by decide) rfl (fun ls hl => ?_)
  have lp2 : ∀ (n9 : Nat) (k : Nat), (k ≤ t.length) → ((wd_sp 46 t).all pt_ok = pa_g (decide (k = 0 ∨ t.getD (k - 1) 0 = 46)) (t.drop k)) → t.length - k < n9 → ∀ (H : Heap) (locs : List Loc) (ls : Array Slot), hm_P D cl_W M H → va_S (hm_A B) s.heap H locs → lv_has ls 2 [(0, .ref (P 0)), (1, .int (nI k))] → W p l e R s m ([.ref (P 0)] : List Value).toArray below meth c H locs (0) (0) (MQ below (hm_Ni B D (fun r M1 => r = nI (bz ((wd_sp 46 t).all pt_ok)) ∧ M1 = M)) ([.ref (P 0)] : List Value).toArray s (0) (0) (hm_A B)) (F0 m 2 ls []) := by
    intro n9
    induction n9 with
    | zero => intro k hk hp hm; exact absurd hm (Nat.not_lt_zero _)
    | succ n9 ih2 =>
      intro k hk hp hm H locs ls hP hS hl
      have hk9 := tx_lt ti4 k
      have hk8 := tx_lt ti4 (k - 1)
      have hk7 := tx_lt ti4 (k + 1)
      refine lv_iload_n hx hb dd_MO_isPattern_2 rfl (lv_at hl 1 rfl) ?_
      refine lv_aload_n hx hb dd_MO_isPattern_3 rfl (lv_at hl 0 rfl) ?_
      refine hm_get (ci := 6) (C := rn_MO) (T := ft_MO) (N := 22) hx hb hts fi_MO hown hE.K hP p0 rfl 2 (by decide) (hts _ tw_988) (fun _ h9 => h9) rfl dd_MO_isPattern_4 ?_
      refine W.eq (g2 := F0 m 7 ls [.int (nI t.length), .int (nI k)]) (by rw [ti1]) ?_
      refine hn_icmp_ge (tgt := 83) hx hb (by omega) (by omega) dd_MO_isPattern_7 (by decide) (fun c1 => ?_) (fun c1 => ?_)
      · refine lv_iconst (v := nI 1) hx hb dd_MO_isPattern_83 (by decide +kernel) ?_
        exact hm_Ei (v := nI 1) hx hb hr rfl hS hP (⟨bz_1 (by rw [hp, List.drop_of_length_le (by omega)]; rfl), rfl⟩) hlocks (by omega) (by omega) dd_MO_isPattern_84
      · refine lv_aload_n hx hb dd_MO_isPattern_10 rfl (lv_at hl 0 rfl) ?_
        refine hm_get (ci := 6) (C := rn_MO) (T := ft_MO) (N := 22) hx hb hts fi_MO hown hE.K hP p0 rfl 1 (by decide) (hts _ tw_987) (fun _ h9 => h9) rfl dd_MO_isPattern_11 ?_
        refine lv_iload_n hx hb dd_MO_isPattern_14 rfl (lv_at hl 1 rfl) ?_
        refine hm_iald (j := k) hx hb hE.K hP 2 p1 rfl (vp_in_nI (by omega) (by omega)) (nI_clamp (by omega)) dd_MO_isPattern_15 ?_
        refine W.eq (g2 := F0 m 16 ls [.int (nI (t.getD k 0))]) (by rw [ti2 k (by omega)]) ?_
        refine lv_bipush (v := nI 42) hx hb dd_MO_isPattern_16 (by decide +kernel) ?_
        refine hn_icmp_eq (tgt := 35) hx hb (by omega) (by omega) dd_MO_isPattern_18 (by decide) (fun c2 => ?_) (fun c2 => ?_)
        · refine lv_iload_n hx hb dd_MO_isPattern_35 rfl (lv_at hl 1 rfl) ?_
          refine hn_if_le (tgt := 52) hx hb (by omega) dd_MO_isPattern_36 (by decide) (fun c3 => ?_) (fun c3 => ?_)
          · refine lv_iload_n hx hb dd_MO_isPattern_52 rfl (lv_at hl 1 rfl) ?_
            refine lv_iconst (v := nI 1) hx hb dd_MO_isPattern_53 (by decide +kernel) ?_
            refine hn_iadd hx hb dd_MO_isPattern_54 ?_
            refine lv_aload_n hx hb dd_MO_isPattern_55 rfl (lv_at hl 0 rfl) ?_
            refine hm_get (ci := 6) (C := rn_MO) (T := ft_MO) (N := 22) hx hb hts fi_MO hown hE.K hP p0 rfl 2 (by decide) (hts _ tw_988) (fun _ h9 => h9) rfl dd_MO_isPattern_56 ?_
            refine W.eq (g2 := F0 m 59 ls [.int (nI t.length), .int (nI (k + 1))]) (by rw [ti1]) ?_
            refine hn_icmp_ge (tgt := 77) hx hb (by omega) (by omega) dd_MO_isPattern_59 (by decide) (fun c4 => ?_) (fun c4 => ?_)
            · refine lv_iinc (v := nI (k + 1)) (lv' := [(1, .int (nI (k + 1))), (0, .ref (P 0))]) hx hb dd_MO_isPattern_77 hl (k := 1) rfl (nI_1 k) (by decide) rfl (fun ls hl => ?_)
              refine lv_goto (tgt := 2) hx hb dd_MO_isPattern_80 (by decide) ?_
              exact ih2 (k + 1) (by omega) (by rw [hp, pa_ok (by omega) (by omega)]) (by omega) _ _ _ hP hS (lv_sub hl [1, 0] rfl)
            · refine lv_aload_n hx hb dd_MO_isPattern_62 rfl (lv_at hl 0 rfl) ?_
              refine hm_get (ci := 6) (C := rn_MO) (T := ft_MO) (N := 22) hx hb hts fi_MO hown hE.K hP p0 rfl 1 (by decide) (hts _ tw_987) (fun _ h9 => h9) rfl dd_MO_isPattern_63 ?_
              refine lv_iload_n hx hb dd_MO_isPattern_66 rfl (lv_at hl 1 rfl) ?_
              refine lv_iconst (v := nI 1) hx hb dd_MO_isPattern_67 (by decide +kernel) ?_
              refine hn_iadd hx hb dd_MO_isPattern_68 ?_
              refine hm_iald (j := k + 1) hx hb hE.K hP 2 p1 rfl (vp_in_nI (by omega) (by omega)) (nI_clamp (by omega)) dd_MO_isPattern_69 ?_
              refine W.eq (g2 := F0 m 70 ls [.int (nI (t.getD (k + 1) 0))]) (by rw [ti2 (k + 1) (by omega)]) ?_
              refine lv_bipush (v := nI 46) hx hb dd_MO_isPattern_70 (by decide +kernel) ?_
              refine hn_icmp_eq (tgt := 77) hx hb (by omega) (by omega) dd_MO_isPattern_72 (by decide) (fun c5 => ?_) (fun c5 => ?_)
              · refine lv_iinc (v := nI (k + 1)) (lv' := [(1, .int (nI (k + 1))), (0, .ref (P 0))]) hx hb dd_MO_isPattern_77 hl (k := 1) rfl (nI_1 k) (by decide) rfl (fun ls hl => ?_)
                refine lv_goto (tgt := 2) hx hb dd_MO_isPattern_80 (by decide) ?_
                exact ih2 (k + 1) (by omega) (by rw [hp, pa_ok (by omega) (by omega)]) (by omega) _ _ _ hP hS (lv_sub hl [1, 0] rfl)
              · refine lv_iconst (v := nI 0) hx hb dd_MO_isPattern_75 (by decide +kernel) ?_
                exact hm_Ei (v := nI 0) hx hb hr rfl hS hP (⟨bz_0 (by rw [hp, pa_no (by omega) (by omega) (by omega)]), rfl⟩) hlocks (by omega) (by omega) dd_MO_isPattern_76
          · refine lv_aload_n hx hb dd_MO_isPattern_39 rfl (lv_at hl 0 rfl) ?_
            refine hm_get (ci := 6) (C := rn_MO) (T := ft_MO) (N := 22) hx hb hts fi_MO hown hE.K hP p0 rfl 1 (by decide) (hts _ tw_987) (fun _ h9 => h9) rfl dd_MO_isPattern_40 ?_
            refine lv_iload_n hx hb dd_MO_isPattern_43 rfl (lv_at hl 1 rfl) ?_
            refine lv_iconst (v := nI 1) hx hb dd_MO_isPattern_44 (by decide +kernel) ?_
            refine hn_isub hx hb (by omega) dd_MO_isPattern_45 ?_
            refine hm_iald (j := k - 1) hx hb hE.K hP 2 p1 rfl (vp_in_nI (by omega) (by omega)) (nI_clamp (by omega)) dd_MO_isPattern_46 ?_
            refine W.eq (g2 := F0 m 47 ls [.int (nI (t.getD (k - 1) 0))]) (by rw [ti2 (k - 1) (by omega)]) ?_
            refine lv_bipush (v := nI 46) hx hb dd_MO_isPattern_47 (by decide +kernel) ?_
            refine hn_icmp_ne (tgt := 75) hx hb (by omega) (by omega) dd_MO_isPattern_49 (by decide) (fun c6 => ?_) (fun c6 => ?_)
            · refine lv_iconst (v := nI 0) hx hb dd_MO_isPattern_75 (by decide +kernel) ?_
              exact hm_Ei (v := nI 0) hx hb hr rfl hS hP (⟨bz_0 (by rw [hp, pa_no (by omega) (by omega) (by omega)]), rfl⟩) hlocks (by omega) (by omega) dd_MO_isPattern_76
            · refine lv_iload_n hx hb dd_MO_isPattern_52 rfl (lv_at hl 1 rfl) ?_
              refine lv_iconst (v := nI 1) hx hb dd_MO_isPattern_53 (by decide +kernel) ?_
              refine hn_iadd hx hb dd_MO_isPattern_54 ?_
              refine lv_aload_n hx hb dd_MO_isPattern_55 rfl (lv_at hl 0 rfl) ?_
              refine hm_get (ci := 6) (C := rn_MO) (T := ft_MO) (N := 22) hx hb hts fi_MO hown hE.K hP p0 rfl 2 (by decide) (hts _ tw_988) (fun _ h9 => h9) rfl dd_MO_isPattern_56 ?_
              refine W.eq (g2 := F0 m 59 ls [.int (nI t.length), .int (nI (k + 1))]) (by rw [ti1]) ?_
              refine hn_icmp_ge (tgt := 77) hx hb (by omega) (by omega) dd_MO_isPattern_59 (by decide) (fun c7 => ?_) (fun c7 => ?_)
              · refine lv_iinc (v := nI (k + 1)) (lv' := [(1, .int (nI (k + 1))), (0, .ref (P 0))]) hx hb dd_MO_isPattern_77 hl (k := 1) rfl (nI_1 k) (by decide) rfl (fun ls hl => ?_)
                refine lv_goto (tgt := 2) hx hb dd_MO_isPattern_80 (by decide) ?_
                exact ih2 (k + 1) (by omega) (by rw [hp, pa_ok (by omega) (by omega)]) (by omega) _ _ _ hP hS (lv_sub hl [1, 0] rfl)
              · refine lv_aload_n hx hb dd_MO_isPattern_62 rfl (lv_at hl 0 rfl) ?_
                refine hm_get (ci := 6) (C := rn_MO) (T := ft_MO) (N := 22) hx hb hts fi_MO hown hE.K hP p0 rfl 1 (by decide) (hts _ tw_987) (fun _ h9 => h9) rfl dd_MO_isPattern_63 ?_
                refine lv_iload_n hx hb dd_MO_isPattern_66 rfl (lv_at hl 1 rfl) ?_
                refine lv_iconst (v := nI 1) hx hb dd_MO_isPattern_67 (by decide +kernel) ?_
                refine hn_iadd hx hb dd_MO_isPattern_68 ?_
                refine hm_iald (j := k + 1) hx hb hE.K hP 2 p1 rfl (vp_in_nI (by omega) (by omega)) (nI_clamp (by omega)) dd_MO_isPattern_69 ?_
                refine W.eq (g2 := F0 m 70 ls [.int (nI (t.getD (k + 1) 0))]) (by rw [ti2 (k + 1) (by omega)]) ?_
                refine lv_bipush (v := nI 46) hx hb dd_MO_isPattern_70 (by decide +kernel) ?_
                refine hn_icmp_eq (tgt := 77) hx hb (by omega) (by omega) dd_MO_isPattern_72 (by decide) (fun c8 => ?_) (fun c8 => ?_)
                · refine lv_iinc (v := nI (k + 1)) (lv' := [(1, .int (nI (k + 1))), (0, .ref (P 0))]) hx hb dd_MO_isPattern_77 hl (k := 1) rfl (nI_1 k) (by decide) rfl (fun ls hl => ?_)
                  refine lv_goto (tgt := 2) hx hb dd_MO_isPattern_80 (by decide) ?_
                  exact ih2 (k + 1) (by omega) (by rw [hp, pa_ok (by omega) (by omega)]) (by omega) _ _ _ hP hS (lv_sub hl [1, 0] rfl)
                · refine lv_iconst (v := nI 0) hx hb dd_MO_isPattern_75 (by decide +kernel) ?_
                  exact hm_Ei (v := nI 0) hx hb hr rfl hS hP (⟨bz_0 (by rw [hp, pa_no (by omega) (by omega) (by omega)]), rfl⟩) hlocks (by omega) (by omega) dd_MO_isPattern_76
        · refine lv_aload_n hx hb dd_MO_isPattern_21 rfl (lv_at hl 0 rfl) ?_
          refine hm_get (ci := 6) (C := rn_MO) (T := ft_MO) (N := 22) hx hb hts fi_MO hown hE.K hP p0 rfl 1 (by decide) (hts _ tw_987) (fun _ h9 => h9) rfl dd_MO_isPattern_22 ?_
          refine lv_iload_n hx hb dd_MO_isPattern_25 rfl (lv_at hl 1 rfl) ?_
          refine hm_iald (j := k) hx hb hE.K hP 2 p1 rfl (vp_in_nI (by omega) (by omega)) (nI_clamp (by omega)) dd_MO_isPattern_26 ?_
          refine W.eq (g2 := F0 m 27 ls [.int (nI (t.getD k 0))]) (by rw [ti2 k (by omega)]) ?_
          refine lv_bipush (v := nI 35) hx hb dd_MO_isPattern_27 (by decide +kernel) ?_
          refine hn_icmp_eq (tgt := 35) hx hb (by omega) (by omega) dd_MO_isPattern_29 (by decide) (fun c9 => ?_) (fun c9 => ?_)
          · refine lv_iload_n hx hb dd_MO_isPattern_35 rfl (lv_at hl 1 rfl) ?_
            refine hn_if_le (tgt := 52) hx hb (by omega) dd_MO_isPattern_36 (by decide) (fun c10 => ?_) (fun c10 => ?_)
            · refine lv_iload_n hx hb dd_MO_isPattern_52 rfl (lv_at hl 1 rfl) ?_
              refine lv_iconst (v := nI 1) hx hb dd_MO_isPattern_53 (by decide +kernel) ?_
              refine hn_iadd hx hb dd_MO_isPattern_54 ?_
              refine lv_aload_n hx hb dd_MO_isPattern_55 rfl (lv_at hl 0 rfl) ?_
              refine hm_get (ci := 6) (C := rn_MO) (T := ft_MO) (N := 22) hx hb hts fi_MO hown hE.K hP p0 rfl 2 (by decide) (hts _ tw_988) (fun _ h9 => h9) rfl dd_MO_isPattern_56 ?_
              refine W.eq (g2 := F0 m 59 ls [.int (nI t.length), .int (nI (k + 1))]) (by rw [ti1]) ?_
              refine hn_icmp_ge (tgt := 77) hx hb (by omega) (by omega) dd_MO_isPattern_59 (by decide) (fun c11 => ?_) (fun c11 => ?_)
              · refine lv_iinc (v := nI (k + 1)) (lv' := [(1, .int (nI (k + 1))), (0, .ref (P 0))]) hx hb dd_MO_isPattern_77 hl (k := 1) rfl (nI_1 k) (by decide) rfl (fun ls hl => ?_)
                refine lv_goto (tgt := 2) hx hb dd_MO_isPattern_80 (by decide) ?_
                exact ih2 (k + 1) (by omega) (by rw [hp, pa_ok (by omega) (by omega)]) (by omega) _ _ _ hP hS (lv_sub hl [1, 0] rfl)
              · refine lv_aload_n hx hb dd_MO_isPattern_62 rfl (lv_at hl 0 rfl) ?_
                refine hm_get (ci := 6) (C := rn_MO) (T := ft_MO) (N := 22) hx hb hts fi_MO hown hE.K hP p0 rfl 1 (by decide) (hts _ tw_987) (fun _ h9 => h9) rfl dd_MO_isPattern_63 ?_
                refine lv_iload_n hx hb dd_MO_isPattern_66 rfl (lv_at hl 1 rfl) ?_
                refine lv_iconst (v := nI 1) hx hb dd_MO_isPattern_67 (by decide +kernel) ?_
                refine hn_iadd hx hb dd_MO_isPattern_68 ?_
                refine hm_iald (j := k + 1) hx hb hE.K hP 2 p1 rfl (vp_in_nI (by omega) (by omega)) (nI_clamp (by omega)) dd_MO_isPattern_69 ?_
                refine W.eq (g2 := F0 m 70 ls [.int (nI (t.getD (k + 1) 0))]) (by rw [ti2 (k + 1) (by omega)]) ?_
                refine lv_bipush (v := nI 46) hx hb dd_MO_isPattern_70 (by decide +kernel) ?_
                refine hn_icmp_eq (tgt := 77) hx hb (by omega) (by omega) dd_MO_isPattern_72 (by decide) (fun c12 => ?_) (fun c12 => ?_)
                · refine lv_iinc (v := nI (k + 1)) (lv' := [(1, .int (nI (k + 1))), (0, .ref (P 0))]) hx hb dd_MO_isPattern_77 hl (k := 1) rfl (nI_1 k) (by decide) rfl (fun ls hl => ?_)
                  refine lv_goto (tgt := 2) hx hb dd_MO_isPattern_80 (by decide) ?_
                  exact ih2 (k + 1) (by omega) (by rw [hp, pa_ok (by omega) (by omega)]) (by omega) _ _ _ hP hS (lv_sub hl [1, 0] rfl)
                · refine lv_iconst (v := nI 0) hx hb dd_MO_isPattern_75 (by decide +kernel) ?_
                  exact hm_Ei (v := nI 0) hx hb hr rfl hS hP (⟨bz_0 (by rw [hp, pa_no (by omega) (by omega) (by omega)]), rfl⟩) hlocks (by omega) (by omega) dd_MO_isPattern_76
            · refine lv_aload_n hx hb dd_MO_isPattern_39 rfl (lv_at hl 0 rfl) ?_
              refine hm_get (ci := 6) (C := rn_MO) (T := ft_MO) (N := 22) hx hb hts fi_MO hown hE.K hP p0 rfl 1 (by decide) (hts _ tw_987) (fun _ h9 => h9) rfl dd_MO_isPattern_40 ?_
              refine lv_iload_n hx hb dd_MO_isPattern_43 rfl (lv_at hl 1 rfl) ?_
              refine lv_iconst (v := nI 1) hx hb dd_MO_isPattern_44 (by decide +kernel) ?_
              refine hn_isub hx hb (by omega) dd_MO_isPattern_45 ?_
              refine hm_iald (j := k - 1) hx hb hE.K hP 2 p1 rfl (vp_in_nI (by omega) (by omega)) (nI_clamp (by omega)) dd_MO_isPattern_46 ?_
              refine W.eq (g2 := F0 m 47 ls [.int (nI (t.getD (k - 1) 0))]) (by rw [ti2 (k - 1) (by omega)]) ?_
              refine lv_bipush (v := nI 46) hx hb dd_MO_isPattern_47 (by decide +kernel) ?_
              refine hn_icmp_ne (tgt := 75) hx hb (by omega) (by omega) dd_MO_isPattern_49 (by decide) (fun c13 => ?_) (fun c13 => ?_)
              · refine lv_iconst (v := nI 0) hx hb dd_MO_isPattern_75 (by decide +kernel) ?_
                exact hm_Ei (v := nI 0) hx hb hr rfl hS hP (⟨bz_0 (by rw [hp, pa_no (by omega) (by omega) (by omega)]), rfl⟩) hlocks (by omega) (by omega) dd_MO_isPattern_76
              · refine lv_iload_n hx hb dd_MO_isPattern_52 rfl (lv_at hl 1 rfl) ?_
                refine lv_iconst (v := nI 1) hx hb dd_MO_isPattern_53 (by decide +kernel) ?_
                refine hn_iadd hx hb dd_MO_isPattern_54 ?_
                refine lv_aload_n hx hb dd_MO_isPattern_55 rfl (lv_at hl 0 rfl) ?_
                refine hm_get (ci := 6) (C := rn_MO) (T := ft_MO) (N := 22) hx hb hts fi_MO hown hE.K hP p0 rfl 2 (by decide) (hts _ tw_988) (fun _ h9 => h9) rfl dd_MO_isPattern_56 ?_
                refine W.eq (g2 := F0 m 59 ls [.int (nI t.length), .int (nI (k + 1))]) (by rw [ti1]) ?_
                refine hn_icmp_ge (tgt := 77) hx hb (by omega) (by omega) dd_MO_isPattern_59 (by decide) (fun c14 => ?_) (fun c14 => ?_)
                · refine lv_iinc (v := nI (k + 1)) (lv' := [(1, .int (nI (k + 1))), (0, .ref (P 0))]) hx hb dd_MO_isPattern_77 hl (k := 1) rfl (nI_1 k) (by decide) rfl (fun ls hl => ?_)
                  refine lv_goto (tgt := 2) hx hb dd_MO_isPattern_80 (by decide) ?_
                  exact ih2 (k + 1) (by omega) (by rw [hp, pa_ok (by omega) (by omega)]) (by omega) _ _ _ hP hS (lv_sub hl [1, 0] rfl)
                · refine lv_aload_n hx hb dd_MO_isPattern_62 rfl (lv_at hl 0 rfl) ?_
                  refine hm_get (ci := 6) (C := rn_MO) (T := ft_MO) (N := 22) hx hb hts fi_MO hown hE.K hP p0 rfl 1 (by decide) (hts _ tw_987) (fun _ h9 => h9) rfl dd_MO_isPattern_63 ?_
                  refine lv_iload_n hx hb dd_MO_isPattern_66 rfl (lv_at hl 1 rfl) ?_
                  refine lv_iconst (v := nI 1) hx hb dd_MO_isPattern_67 (by decide +kernel) ?_
                  refine hn_iadd hx hb dd_MO_isPattern_68 ?_
                  refine hm_iald (j := k + 1) hx hb hE.K hP 2 p1 rfl (vp_in_nI (by omega) (by omega)) (nI_clamp (by omega)) dd_MO_isPattern_69 ?_
                  refine W.eq (g2 := F0 m 70 ls [.int (nI (t.getD (k + 1) 0))]) (by rw [ti2 (k + 1) (by omega)]) ?_
                  refine lv_bipush (v := nI 46) hx hb dd_MO_isPattern_70 (by decide +kernel) ?_
                  refine hn_icmp_eq (tgt := 77) hx hb (by omega) (by omega) dd_MO_isPattern_72 (by decide) (fun c15 => ?_) (fun c15 => ?_)
                  · refine lv_iinc (v := nI (k + 1)) (lv' := [(1, .int (nI (k + 1))), (0, .ref (P 0))]) hx hb dd_MO_isPattern_77 hl (k := 1) rfl (nI_1 k) (by decide) rfl (fun ls hl => ?_)
                    refine lv_goto (tgt := 2) hx hb dd_MO_isPattern_80 (by decide) ?_
                    exact ih2 (k + 1) (by omega) (by rw [hp, pa_ok (by omega) (by omega)]) (by omega) _ _ _ hP hS (lv_sub hl [1, 0] rfl)
                  · refine lv_iconst (v := nI 0) hx hb dd_MO_isPattern_75 (by decide +kernel) ?_
                    exact hm_Ei (v := nI 0) hx hb hr rfl hS hP (⟨bz_0 (by rw [hp, pa_no (by omega) (by omega) (by omega)]), rfl⟩) hlocks (by omega) (by omega) dd_MO_isPattern_76
          · refine lv_goto (tgt := 77) hx hb dd_MO_isPattern_32 (by decide) ?_
            refine lv_iinc (v := nI (k + 1)) (lv' := [(1, .int (nI (k + 1))), (0, .ref (P 0))]) hx hb dd_MO_isPattern_77 hl (k := 1) rfl (nI_1 k) (by decide) rfl (fun ls hl => ?_)
            refine lv_goto (tgt := 2) hx hb dd_MO_isPattern_80 (by decide) ?_
            exact ih2 (k + 1) (by omega) (by rw [hp, pa_ok (by omega) (by omega)]) (by omega) _ _ _ hP hS (lv_sub hl [1, 0] rfl)
  exact lp2 _ 0 (Nat.zero_le _) (by rw [pa_all]; rfl) (Nat.lt_succ_self _) _ _ _ hP hS (lv_sub hl [1, 0] rfl)
set_option maxHeartbeats 4000000 in
set_option maxRecDepth 100000 in
theorem kc_MO_readName (l : Launch) (B : Nat) (D : va_G) (G : Nat → Nat) (M : hm_M) (P O : Nat → Nat) (I : Nat → Int32) (A : Nat → Nat → Int32) (L : Nat → Nat → Int64) (hD : mo_D B D P O M I A L) (t : List Nat) (hT : tpS (I 2) (A 1) t) (a9 : Nat) (ha9 : a9 ≤ t.length) (hat : I 18 = nI a9) : Met l yy_MO_readName ws_MO_readName ({ frames := 1, cells := 0, slots := 0, locals := 20 }) (hm_Pc B D G M [.ref (P 0), .int (nI t.length)]) (hm_Nl B D (fun r M1 => ∃ e, rn_E ch_small t a9 e ∧ r = (if 1 ≤ e - a9 ∧ e - a9 < 7 then cd (tx_sl t a9 e) else -1) ∧ mo_D B D P O M1 (va_up I 18 (nI e)) A L ∧ cz_F O M O M1 pm)) (0) (0) (hm_A B) := by
  refine Met.ofW (cc := cd_MO_readName) (maxL := 5) (ret := ((some FieldType.long))) (by decide) rfl ?_
  intro p e s m args below meth c s₁ B0 hml hv
  obtain ⟨rfl, hE, hP⟩ := hv
  have hx := B0.exec
  have hb := B0.bytes
  have hr := B0.returns
  have hts : ∀ w ∈ tb_G, w.before _ s = true := fun w h => atoms_spec (ws := ws_MO_readName) B0.pre w (List.mem_cons_of_mem _ h)
  have hown : s.vm.findClass "RouteDeskModel" = some m.cls := findClass_of_methodNamed B0.named
  have hlocks := B0.notSynchronized
  have hRf : (headSpec ws_MO_readName { frames := 1, cells := 0, slots := 0, locals := 20 }).room.frames = 1 := rfl
  have hRl : (headSpec ws_MO_readName { frames := 1, cells := 0, slots := 0, locals := 20 }).room.locals = 20 := rfl
  have hRc : (headSpec ws_MO_readName { frames := 1, cells := 0, slots := 0, locals := 20 }).room.cells = 0 := rfl
  have hRs : (headSpec ws_MO_readName { frames := 1, cells := 0, slots := 0, locals := 20 }).room.slots = 0 := rfl
  generalize (headSpec ws_MO_readName { frames := 1, cells := 0, slots := 0, locals := 20 }).room = R at hRf hRl hRc hRs ⊢
  have hS : va_S (hm_A B) s.heap s.heap [] := va_S.rf
  have hl := lv_entry ([.ref (P 0), .int (nI t.length)]) (n := 5) (Nat.le_of_ble_eq_true rfl)
  rw [lg_entry_eq]
  generalize (lg_sl ([.ref (P 0), .int (nI t.length)]) ++ List.replicate (5 - (lg_sl ([.ref (P 0), .int (nI t.length)])).length) Slot.unset).toArray = ls at hl ⊢
  have hl : lv_has ls 5 [(0, .ref (P 0)), (1, .int (nI t.length))] := hl
  have t16 : (nI 16).toInt = 16 := by decide
  have tm1 : (-1 : Int32).toInt = -1 := by decide
  have t0 : (nI 0).toInt = 0 := by decide
  have t2 : (nI 2).toInt = 2 := by decide
  have t3 : (nI 3).toInt = 3 := by decide
  have t1 : (nI 1).toInt = 1 := by decide
  have t4 : (nI 4).toInt = 4 := by decide
  obtain ⟨p0, p1, p3, p4, p5, p7, p8, p9, p10, p11, p14, p15, p16, p17, p19, p20, p21, po, pb⟩ := id hD
  obtain ⟨ti1, ti2, ti3, ti4⟩ := id hT
  refine lv_lconst (v := 0) hx hb dd_MO_readName_0 (by decide +kernel) ?_
  refine lv_lstore_n (lv' := [(2, .long 0), (0, .ref (P 0)), (1, .int (nI t.length))]) hx hb dd_MO_readName_1 rfl hl (by decide) rfl (fun ls hl => ?_)
  refine lv_aload_n hx hb dd_MO_readName_2 rfl (lv_at hl 1 rfl) ?_
  refine hm_get (ci := 6) (C := rn_MO) (T := ft_MO) (N := 22) hx hb hts fi_MO hown hE.K hP p0 rfl 18 (by decide) (hts _ tw_1004) (fun _ h9 => h9) rfl dd_MO_readName_3 ?_
  refine W.eq (g2 := F0 m 6 ls [.int (nI a9)]) (by rw [hat]) ?_
  refine lv_istore (lv' := [(4, .int (nI a9)), (2, .long 0), (0, .ref (P 0)), (1, .int (nI t.length))]) hx hb dd_MO_readName_6 hl (by decide) rfl (fun ls hl => ?_)
  have lp8 : ∀ (n9 : Nat) (ee : Nat) (v : Int64) (Mu8 : hm_M), (a9 ≤ ee) → (ee ≤ t.length) → (∀ j, a9 ≤ j → j < ee → ch_small (t.getD j 0) = true) → (ee - a9 ≤ 7 → v = cd (tx_sl t a9 ee)) → (mo_D B D P O Mu8 (va_up I 18 (nI ee)) A L) → (cz_F O M O Mu8 pm) → t.length - ee < n9 → ∀ (H : Heap) (locs : List Loc) (ls : Array Slot), hm_P D cl_W Mu8 H → va_S (hm_A B) s.heap H locs → lv_has ls 5 [(0, .ref (P 0)), (1, .int (nI t.length)), (2, .long v), (4, .int (nI a9))] → W p l e R s m ([.ref (P 0), .int (nI t.length)] : List Value).toArray below meth c H locs (0) (0) (MQ below (hm_Nl B D (fun r M1 => ∃ e, rn_E ch_small t a9 e ∧ r = (if 1 ≤ e - a9 ∧ e - a9 < 7 then cd (tx_sl t a9 e) else -1) ∧ mo_D B D P O M1 (va_up I 18 (nI e)) A L ∧ cz_F O M O M1 pm)) ([.ref (P 0), .int (nI t.length)] : List Value).toArray s (0) (0) (hm_A B)) (F0 m 8 ls []) := by
    intro n9
    induction n9 with
    | zero => intro ee v Mu8 he1 he2 hrun hv hd8 hF8 hm; exact absurd hm (Nat.not_lt_zero _)
    | succ n9 ih8 =>
      intro ee v Mu8 he1 he2 hrun hv hd8 hF8 hm H locs ls hP hS hl
      obtain ⟨g1_0, g1_1, g1_3, g1_4, g1_5, g1_7, g1_8, g1_9, g1_10, g1_11, g1_14, g1_15, g1_16, g1_17, g1_19, g1_20, g1_21, -, -⟩ := id hd8
      have g1_0 : Mu8 (P 0) = some (.inr (6, [.int (I 0), .ref (P 1), .int (I 2), .ref (P 3), .ref (P 4), .ref (P 5), .int (I 6), .ref (P 7), .ref (P 8), .ref (P 9), .ref (P 10), .ref (P 11), .int (I 12), .int (I 13), .ref (P 14), .ref (P 15), .ref (P 16), .ref (P 17), .int (nI ee), .ref (P 19), .ref (P 20), .ref (P 21)])) := g1_0
      have hle := tx_lt ti4 ee
      refine lv_aload_n hx hb dd_MO_readName_8 rfl (lv_at hl 0 rfl) ?_
      refine hm_get (ci := 6) (C := rn_MO) (T := ft_MO) (N := 22) hx hb hts fi_MO hown hE.K hP g1_0 rfl 18 (by decide) (hts _ tw_1004) (fun _ h9 => h9) rfl dd_MO_readName_9 ?_
      refine lv_iload_n hx hb dd_MO_readName_12 rfl (lv_at hl 1 rfl) ?_
      refine hn_icmp_ge (tgt := 76) hx hb (by omega) (by omega) dd_MO_readName_13 (by decide) (fun c2 => ?_) (fun c2 => ?_)
      · refine lv_aload_n hx hb dd_MO_readName_76 rfl (lv_at hl 0 rfl) ?_
        refine hm_get (ci := 6) (C := rn_MO) (T := ft_MO) (N := 22) hx hb hts fi_MO hown hE.K hP g1_0 rfl 18 (by decide) (hts _ tw_1004) (fun _ h9 => h9) rfl dd_MO_readName_77 ?_
        refine lv_iload hx hb dd_MO_readName_80 (lv_at hl 3 rfl) ?_
        refine hn_icmp_le (tgt := 101) hx hb (by omega) (by omega) dd_MO_readName_82 (by decide) (fun c3 => ?_) (fun c3 => ?_)
        · refine lv_ldc2 (v := -1) hx hb hown (hts _ tw_1122) dd_MO_readName_101 ?_
          exact hm_El (v := (-1)) hx hb hr hS hP (⟨ee, ⟨he1, he2, hrun, fun h9 => absurd h9 (by omega)⟩, by rw [if_neg (by omega)], ⟨g1_0, g1_1, g1_3, g1_4, g1_5, g1_7, g1_8, g1_9, g1_10, g1_11, g1_14, g1_15, g1_16, g1_17, g1_19, g1_20, g1_21, po, pb⟩, hF8⟩) hlocks (by omega) (by omega) dd_MO_readName_104
        · refine lv_aload_n hx hb dd_MO_readName_85 rfl (lv_at hl 0 rfl) ?_
          refine hm_get (ci := 6) (C := rn_MO) (T := ft_MO) (N := 22) hx hb hts fi_MO hown hE.K hP g1_0 rfl 18 (by decide) (hts _ tw_1004) (fun _ h9 => h9) rfl dd_MO_readName_86 ?_
          refine lv_iload hx hb dd_MO_readName_89 (lv_at hl 3 rfl) ?_
          refine hn_isub hx hb (by omega) dd_MO_readName_91 ?_
          refine lv_bipush (v := nI 7) hx hb dd_MO_readName_92 (by decide +kernel) ?_
          refine hn_icmp_ge (tgt := 101) hx hb (by omega) (by omega) dd_MO_readName_94 (by decide) (fun c4 => ?_) (fun c4 => ?_)
          · refine lv_ldc2 (v := -1) hx hb hown (hts _ tw_1122) dd_MO_readName_101 ?_
            exact hm_El (v := (-1)) hx hb hr hS hP (⟨ee, ⟨he1, he2, hrun, fun h9 => absurd h9 (by omega)⟩, by rw [if_neg (by omega)], ⟨g1_0, g1_1, g1_3, g1_4, g1_5, g1_7, g1_8, g1_9, g1_10, g1_11, g1_14, g1_15, g1_16, g1_17, g1_19, g1_20, g1_21, po, pb⟩, hF8⟩) hlocks (by omega) (by omega) dd_MO_readName_104
          · refine lv_lload_n hx hb dd_MO_readName_97 rfl (lv_at hl 2 rfl) ?_
            refine lv_goto (tgt := 104) hx hb dd_MO_readName_98 (by decide) ?_
            exact hm_El (v := v) hx hb hr hS hP (⟨ee, ⟨he1, he2, hrun, fun h9 => absurd h9 (by omega)⟩, by rw [if_pos (by omega)]; exact hv (by omega), ⟨g1_0, g1_1, g1_3, g1_4, g1_5, g1_7, g1_8, g1_9, g1_10, g1_11, g1_14, g1_15, g1_16, g1_17, g1_19, g1_20, g1_21, po, pb⟩, hF8⟩) hlocks (by omega) (by omega) dd_MO_readName_104
      · refine lv_aload_n hx hb dd_MO_readName_16 rfl (lv_at hl 0 rfl) ?_
        refine hm_get (ci := 6) (C := rn_MO) (T := ft_MO) (N := 22) hx hb hts fi_MO hown hE.K hP g1_0 rfl 1 (by decide) (hts _ tw_987) (fun _ h9 => h9) rfl dd_MO_readName_17 ?_
        refine lv_aload_n hx hb dd_MO_readName_20 rfl (lv_at hl 0 rfl) ?_
        refine hm_get (ci := 6) (C := rn_MO) (T := ft_MO) (N := 22) hx hb hts fi_MO hown hE.K hP g1_0 rfl 18 (by decide) (hts _ tw_1004) (fun _ h9 => h9) rfl dd_MO_readName_21 ?_
        refine hm_iald (j := ee) hx hb hE.K hP 2 g1_1 rfl (vp_in_nI (by omega) (by omega)) (nI_clamp (by omega)) dd_MO_readName_24 ?_
        refine W.eq (g2 := F0 m 25 ls [.int (nI (t.getD ee 0))]) (by rw [ti2 ee (by omega)]) ?_
        refine hm_ci hS (hm_rS 1 (As := [.int (nI (t.getD ee 0))]) (rest := []) ⟨hx, hb, hml, hown, hts⟩ hE hS hP (kc_MO_isSmall l B D G Mu8 (t.getD ee 0) (by omega)) tw_1121 tw_1119 tw_1120 tw_46 (by decide +kernel) rfl rfl ⟨by show 0 + 1 ≤ R.frames; omega, by show 8 + (1 + 11) + 0 ≤ R.locals; omega⟩ rfl hl.1 rfl (Nat.le_of_ble_eq_true rfl) dd_MO_readName_25 ⟨by omega, by omega⟩) (fun r5 M6 H locs hw7 hP hS => ?_)
        refine W.widen (k := 0) (n := 0) (by omega) (by omega) ?_
        obtain ⟨rfl, eM6⟩ := hw7
        rw [eM6] at hP
        refine hn_if_eq (tgt := 76) hx hb (bz_b _) dd_MO_readName_28 (by decide) (fun c8 => ?_) (fun c8 => ?_)
        · have hce := bz_f c8
          refine lv_aload_n hx hb dd_MO_readName_76 rfl (lv_at hl 0 rfl) ?_
          refine hm_get (ci := 6) (C := rn_MO) (T := ft_MO) (N := 22) hx hb hts fi_MO hown hE.K hP g1_0 rfl 18 (by decide) (hts _ tw_1004) (fun _ h9 => h9) rfl dd_MO_readName_77 ?_
          refine lv_iload hx hb dd_MO_readName_80 (lv_at hl 3 rfl) ?_
          refine hn_icmp_le (tgt := 101) hx hb (by omega) (by omega) dd_MO_readName_82 (by decide) (fun c9 => ?_) (fun c9 => ?_)
          · refine lv_ldc2 (v := -1) hx hb hown (hts _ tw_1122) dd_MO_readName_101 ?_
            exact hm_El (v := (-1)) hx hb hr hS hP (⟨ee, ⟨he1, he2, hrun, fun _ => hce⟩, by rw [if_neg (by omega)], ⟨g1_0, g1_1, g1_3, g1_4, g1_5, g1_7, g1_8, g1_9, g1_10, g1_11, g1_14, g1_15, g1_16, g1_17, g1_19, g1_20, g1_21, po, pb⟩, hF8⟩) hlocks (by omega) (by omega) dd_MO_readName_104
          · refine lv_aload_n hx hb dd_MO_readName_85 rfl (lv_at hl 0 rfl) ?_
            refine hm_get (ci := 6) (C := rn_MO) (T := ft_MO) (N := 22) hx hb hts fi_MO hown hE.K hP g1_0 rfl 18 (by decide) (hts _ tw_1004) (fun _ h9 => h9) rfl dd_MO_readName_86 ?_
            refine lv_iload hx hb dd_MO_readName_89 (lv_at hl 3 rfl) ?_
            refine hn_isub hx hb (by omega) dd_MO_readName_91 ?_
            refine lv_bipush (v := nI 7) hx hb dd_MO_readName_92 (by decide +kernel) ?_
            refine hn_icmp_ge (tgt := 101) hx hb (by omega) (by omega) dd_MO_readName_94 (by decide) (fun c10 => ?_) (fun c10 => ?_)
            · refine lv_ldc2 (v := -1) hx hb hown (hts _ tw_1122) dd_MO_readName_101 ?_
              exact hm_El (v := (-1)) hx hb hr hS hP (⟨ee, ⟨he1, he2, hrun, fun _ => hce⟩, by rw [if_neg (by omega)], ⟨g1_0, g1_1, g1_3, g1_4, g1_5, g1_7, g1_8, g1_9, g1_10, g1_11, g1_14, g1_15, g1_16, g1_17, g1_19, g1_20, g1_21, po, pb⟩, hF8⟩) hlocks (by omega) (by omega) dd_MO_readName_104
            · refine lv_lload_n hx hb dd_MO_readName_97 rfl (lv_at hl 2 rfl) ?_
              refine lv_goto (tgt := 104) hx hb dd_MO_readName_98 (by decide) ?_
              exact hm_El (v := v) hx hb hr hS hP (⟨ee, ⟨he1, he2, hrun, fun _ => hce⟩, by rw [if_pos (by omega)]; exact hv (by omega), ⟨g1_0, g1_1, g1_3, g1_4, g1_5, g1_7, g1_8, g1_9, g1_10, g1_11, g1_14, g1_15, g1_16, g1_17, g1_19, g1_20, g1_21, po, pb⟩, hF8⟩) hlocks (by omega) (by omega) dd_MO_readName_104
        · have hce := bz_t c8
          refine lv_aload_n hx hb dd_MO_readName_31 rfl (lv_at hl 0 rfl) ?_
          refine hm_get (ci := 6) (C := rn_MO) (T := ft_MO) (N := 22) hx hb hts fi_MO hown hE.K hP g1_0 rfl 18 (by decide) (hts _ tw_1004) (fun _ h9 => h9) rfl dd_MO_readName_32 ?_
          refine lv_iload hx hb dd_MO_readName_35 (lv_at hl 3 rfl) ?_
          refine hn_isub hx hb (by omega) dd_MO_readName_37 ?_
          refine lv_bipush (v := nI 7) hx hb dd_MO_readName_38 (by decide +kernel) ?_
          refine hn_icmp_ge (tgt := 61) hx hb (by omega) (by omega) dd_MO_readName_40 (by decide) (fun c11 => ?_) (fun c11 => ?_)
          · refine lv_lload_n hx hb dd_MO_readName_61 rfl (lv_at hl 2 rfl) ?_
            refine lv_lstore_n (lv' := [(2, .long v), (0, .ref (P 0)), (1, .int (nI t.length)), (4, .int (nI a9))]) hx hb dd_MO_readName_62 rfl hl (by decide) rfl (fun ls hl => ?_)
            refine lv_aload_n hx hb dd_MO_readName_63 rfl (lv_at hl 1 rfl) ?_
            refine lv_dup hx hb dd_MO_readName_64 rfl ?_
            refine hm_get (ci := 6) (C := rn_MO) (T := ft_MO) (N := 22) hx hb hts fi_MO hown hE.K hP g1_0 rfl 18 (by decide) (hts _ tw_1004) (fun _ h9 => h9) rfl dd_MO_readName_65 ?_
            refine lv_iconst (v := nI 1) hx hb dd_MO_readName_68 (by decide +kernel) ?_
            refine hn_iadd hx hb dd_MO_readName_69 ?_
            refine hm_put (ci := 6) (v := .int (nI (ee + 1))) (ty := .int) (C := rn_MO) (T := ft_MO) (N := 22) hx hb hts fi_MO fy_MO fo_MO fn_MO hown hE.K hP hS (pb 0 (by decide)) g1_0 rfl 18 (by decide) (hts _ tw_1004) (fun _ h9 => h9) rfl (by decide +kernel) rfl rfl (Nat.le_of_ble_eq_true rfl) dd_MO_readName_70 (fun H locs hP hS => ?_)
            have hP : hm_P D cl_W (hm_up Mu8 (P 0) (.inr (6, [.int (I 0), .ref (P 1), .int (I 2), .ref (P 3), .ref (P 4), .ref (P 5), .int (I 6), .ref (P 7), .ref (P 8), .ref (P 9), .ref (P 10), .ref (P 11), .int (I 12), .int (I 13), .ref (P 14), .ref (P 15), .ref (P 16), .ref (P 17), .int (nI (ee + 1)), .ref (P 19), .ref (P 20), .ref (P 21)]))) H := hP
            obtain ⟨M12, eM12⟩ : ∃ z, z = hm_up Mu8 (P 0) (.inr (6, [.int (I 0), .ref (P 1), .int (I 2), .ref (P 3), .ref (P 4), .ref (P 5), .int (I 6), .ref (P 7), .ref (P 8), .ref (P 9), .ref (P 10), .ref (P 11), .int (I 12), .int (I 13), .ref (P 14), .ref (P 15), .ref (P 16), .ref (P 17), .int (nI (ee + 1)), .ref (P 19), .ref (P 20), .ref (P 21)])) := ⟨_, rfl⟩
            rw [← eM12] at hP
            have f13 : M12 (P 1) = some (.inl (D.1 102, 48, .inl (A 1))) := by rw [eM12]; exact hm_up_o (hm_neO (po 1 (by decide)) (po 0 (by decide)) (by decide)) g1_1
            have f14 : M12 (P 3) = some (.inl (D.1 102, 16, .inl (A 3))) := by rw [eM12]; exact hm_up_o (hm_neO (po 3 (by decide)) (po 0 (by decide)) (by decide)) g1_3
            have f15 : M12 (P 4) = some (.inl (D.1 102, 16, .inl (A 4))) := by rw [eM12]; exact hm_up_o (hm_neO (po 4 (by decide)) (po 0 (by decide)) (by decide)) g1_4
            have f16 : M12 (P 5) = some (.inl (D.1 101, 16, .inl (A 5))) := by rw [eM12]; exact hm_up_o (hm_neO (po 5 (by decide)) (po 0 (by decide)) (by decide)) g1_5
            have f17 : M12 (P 7) = some (.inl (D.1 102, 120, .inl (A 7))) := by rw [eM12]; exact hm_up_o (hm_neO (po 7 (by decide)) (po 0 (by decide)) (by decide)) g1_7
            have f18 : M12 (P 8) = some (.inl (D.1 102, 120, .inl (A 8))) := by rw [eM12]; exact hm_up_o (hm_neO (po 8 (by decide)) (po 0 (by decide)) (by decide)) g1_8
            have f19 : M12 (P 9) = some (.inl (D.1 102, 120, .inl (A 9))) := by rw [eM12]; exact hm_up_o (hm_neO (po 9 (by decide)) (po 0 (by decide)) (by decide)) g1_9
            have f20 : M12 (P 10) = some (.inl (D.1 102, 5760, .inl (A 10))) := by rw [eM12]; exact hm_up_o (hm_neO (po 10 (by decide)) (po 0 (by decide)) (by decide)) g1_10
            have f21 : M12 (P 11) = some (.inl (D.1 102, 48, .inl (A 11))) := by rw [eM12]; exact hm_up_o (hm_neO (po 11 (by decide)) (po 0 (by decide)) (by decide)) g1_11
            have f22 : M12 (P 14) = some (.inl (D.1 103, 6, .inr (.inl (L 14)))) := by rw [eM12]; exact hm_up_o (hm_neO (po 14 (by decide)) (po 0 (by decide)) (by decide)) g1_14
            have f23 : M12 (P 15) = some (.inl (D.1 103, 6, .inr (.inl (L 15)))) := by rw [eM12]; exact hm_up_o (hm_neO (po 15 (by decide)) (po 0 (by decide)) (by decide)) g1_15
            have f24 : M12 (P 16) = some (.inl (D.1 101, 16, .inl (A 16))) := by rw [eM12]; exact hm_up_o (hm_neO (po 16 (by decide)) (po 0 (by decide)) (by decide)) g1_16
            have f25 : M12 (P 17) = some (.inl (D.1 101, 16, .inl (A 17))) := by rw [eM12]; exact hm_up_o (hm_neO (po 17 (by decide)) (po 0 (by decide)) (by decide)) g1_17
            have f26 : M12 (P 19) = some (.inl (D.1 101, 2601, .inl (A 19))) := by rw [eM12]; exact hm_up_o (hm_neO (po 19 (by decide)) (po 0 (by decide)) (by decide)) g1_19
            have f27 : M12 (P 20) = some (.inl (D.1 102, 52, .inl (A 20))) := by rw [eM12]; exact hm_up_o (hm_neO (po 20 (by decide)) (po 0 (by decide)) (by decide)) g1_20
            have f28 : M12 (P 21) = some (.inl (D.1 102, 52, .inl (A 21))) := by rw [eM12]; exact hm_up_o (hm_neO (po 21 (by decide)) (po 0 (by decide)) (by decide)) g1_21
            have f29 : M12 (P 0) = some (.inr (6, [.int (I 0), .ref (P 1), .int (I 2), .ref (P 3), .ref (P 4), .ref (P 5), .int (I 6), .ref (P 7), .ref (P 8), .ref (P 9), .ref (P 10), .ref (P 11), .int (I 12), .int (I 13), .ref (P 14), .ref (P 15), .ref (P 16), .ref (P 17), .int (nI (ee + 1)), .ref (P 19), .ref (P 20), .ref (P 21)])) := by rw [eM12]; exact hm_up_s
            refine lv_goto (tgt := 8) hx hb dd_MO_readName_73 (by decide) ?_
            have kk30 : hm_k Mu8 Mu8 [(P 0)] := hm_krf
            have kk31 : hm_k Mu8 M12 [(P 0)] := hm_ku kk30 (Or.inr (by simp)) eM12
            exact ih8 (ee + 1) v M12 (by omega) (by omega) (fun j h8 h9 => by
                by_cases q : j = ee
                · subst q; exact hce
                · exact hrun j h8 (by omega)) (fun h9 => absurd h9 (by omega)) (⟨f29, f13, f14, f15, f16, f17, f18, f19, f20, f21, f22, f23, f24, f25, f26, f27, f28, po, pb⟩) ((hF8).trans (cz_F.k0 kk31 (hm_a1 ⟨by rw [po 0 (by decide)]; unfold pm; omega, _, f29⟩))) (by omega) _ _ _ hP hS (lv_sub hl [1, 2, 0, 3] rfl)
          · refine lv_lload_n hx hb dd_MO_readName_43 rfl (lv_at hl 2 rfl) ?_
            refine lv_bipush (v := nI 8) hx hb dd_MO_readName_44 (by decide +kernel) ?_
            refine lv_lshl hx hb dd_MO_readName_46 rfl ?_
            refine lv_topl (fun w32 ew32 => ?_)
            refine lv_aload_n hx hb dd_MO_readName_47 rfl (lv_at hl 0 rfl) ?_
            refine hm_get (ci := 6) (C := rn_MO) (T := ft_MO) (N := 22) hx hb hts fi_MO hown hE.K hP g1_0 rfl 1 (by decide) (hts _ tw_987) (fun _ h9 => h9) rfl dd_MO_readName_48 ?_
            refine lv_aload_n hx hb dd_MO_readName_51 rfl (lv_at hl 0 rfl) ?_
            refine hm_get (ci := 6) (C := rn_MO) (T := ft_MO) (N := 22) hx hb hts fi_MO hown hE.K hP g1_0 rfl 18 (by decide) (hts _ tw_1004) (fun _ h9 => h9) rfl dd_MO_readName_52 ?_
            refine hm_iald (j := ee) hx hb hE.K hP 2 g1_1 rfl (vp_in_nI (by omega) (by omega)) (nI_clamp (by omega)) dd_MO_readName_55 ?_
            refine W.eq (g2 := F0 m 56 ls [.int (nI (t.getD ee 0)), .long w32]) (by rw [ti2 ee (by omega)]) ?_
            refine lv_i2l hx hb dd_MO_readName_56 rfl ?_
            refine lv_topl (fun w33 ew33 => ?_)
            refine lv_lor hx hb dd_MO_readName_57 ?_
            refine lv_topl (fun w34 ew34 => ?_)
            refine lv_goto (tgt := 62) hx hb dd_MO_readName_58 (by decide) ?_
            refine lv_lstore_n (lv' := [(2, .long w34), (0, .ref (P 0)), (1, .int (nI t.length)), (4, .int (nI a9))]) hx hb dd_MO_readName_62 rfl hl (by decide) rfl (fun ls hl => ?_)
            refine lv_aload_n hx hb dd_MO_readName_63 rfl (lv_at hl 1 rfl) ?_
            refine lv_dup hx hb dd_MO_readName_64 rfl ?_
            refine hm_get (ci := 6) (C := rn_MO) (T := ft_MO) (N := 22) hx hb hts fi_MO hown hE.K hP g1_0 rfl 18 (by decide) (hts _ tw_1004) (fun _ h9 => h9) rfl dd_MO_readName_65 ?_
            refine lv_iconst (v := nI 1) hx hb dd_MO_readName_68 (by decide +kernel) ?_
            refine hn_iadd hx hb dd_MO_readName_69 ?_
            refine hm_put (ci := 6) (v := .int (nI (ee + 1))) (ty := .int) (C := rn_MO) (T := ft_MO) (N := 22) hx hb hts fi_MO fy_MO fo_MO fn_MO hown hE.K hP hS (pb 0 (by decide)) g1_0 rfl 18 (by decide) (hts _ tw_1004) (fun _ h9 => h9) rfl (by decide +kernel) rfl rfl (Nat.le_of_ble_eq_true rfl) dd_MO_readName_70 (fun H locs hP hS => ?_)
            have hP : hm_P D cl_W (hm_up Mu8 (P 0) (.inr (6, [.int (I 0), .ref (P 1), .int (I 2), .ref (P 3), .ref (P 4), .ref (P 5), .int (I 6), .ref (P 7), .ref (P 8), .ref (P 9), .ref (P 10), .ref (P 11), .int (I 12), .int (I 13), .ref (P 14), .ref (P 15), .ref (P 16), .ref (P 17), .int (nI (ee + 1)), .ref (P 19), .ref (P 20), .ref (P 21)]))) H := hP
            obtain ⟨M35, eM35⟩ : ∃ z, z = hm_up Mu8 (P 0) (.inr (6, [.int (I 0), .ref (P 1), .int (I 2), .ref (P 3), .ref (P 4), .ref (P 5), .int (I 6), .ref (P 7), .ref (P 8), .ref (P 9), .ref (P 10), .ref (P 11), .int (I 12), .int (I 13), .ref (P 14), .ref (P 15), .ref (P 16), .ref (P 17), .int (nI (ee + 1)), .ref (P 19), .ref (P 20), .ref (P 21)])) := ⟨_, rfl⟩
            rw [← eM35] at hP
            have f36 : M35 (P 1) = some (.inl (D.1 102, 48, .inl (A 1))) := by rw [eM35]; exact hm_up_o (hm_neO (po 1 (by decide)) (po 0 (by decide)) (by decide)) g1_1
            have f37 : M35 (P 3) = some (.inl (D.1 102, 16, .inl (A 3))) := by rw [eM35]; exact hm_up_o (hm_neO (po 3 (by decide)) (po 0 (by decide)) (by decide)) g1_3
            have f38 : M35 (P 4) = some (.inl (D.1 102, 16, .inl (A 4))) := by rw [eM35]; exact hm_up_o (hm_neO (po 4 (by decide)) (po 0 (by decide)) (by decide)) g1_4
            have f39 : M35 (P 5) = some (.inl (D.1 101, 16, .inl (A 5))) := by rw [eM35]; exact hm_up_o (hm_neO (po 5 (by decide)) (po 0 (by decide)) (by decide)) g1_5
            have f40 : M35 (P 7) = some (.inl (D.1 102, 120, .inl (A 7))) := by rw [eM35]; exact hm_up_o (hm_neO (po 7 (by decide)) (po 0 (by decide)) (by decide)) g1_7
            have f41 : M35 (P 8) = some (.inl (D.1 102, 120, .inl (A 8))) := by rw [eM35]; exact hm_up_o (hm_neO (po 8 (by decide)) (po 0 (by decide)) (by decide)) g1_8
            have f42 : M35 (P 9) = some (.inl (D.1 102, 120, .inl (A 9))) := by rw [eM35]; exact hm_up_o (hm_neO (po 9 (by decide)) (po 0 (by decide)) (by decide)) g1_9
            have f43 : M35 (P 10) = some (.inl (D.1 102, 5760, .inl (A 10))) := by rw [eM35]; exact hm_up_o (hm_neO (po 10 (by decide)) (po 0 (by decide)) (by decide)) g1_10
            have f44 : M35 (P 11) = some (.inl (D.1 102, 48, .inl (A 11))) := by rw [eM35]; exact hm_up_o (hm_neO (po 11 (by decide)) (po 0 (by decide)) (by decide)) g1_11
            have f45 : M35 (P 14) = some (.inl (D.1 103, 6, .inr (.inl (L 14)))) := by rw [eM35]; exact hm_up_o (hm_neO (po 14 (by decide)) (po 0 (by decide)) (by decide)) g1_14
            have f46 : M35 (P 15) = some (.inl (D.1 103, 6, .inr (.inl (L 15)))) := by rw [eM35]; exact hm_up_o (hm_neO (po 15 (by decide)) (po 0 (by decide)) (by decide)) g1_15
            have f47 : M35 (P 16) = some (.inl (D.1 101, 16, .inl (A 16))) := by rw [eM35]; exact hm_up_o (hm_neO (po 16 (by decide)) (po 0 (by decide)) (by decide)) g1_16
            have f48 : M35 (P 17) = some (.inl (D.1 101, 16, .inl (A 17))) := by rw [eM35]; exact hm_up_o (hm_neO (po 17 (by decide)) (po 0 (by decide)) (by decide)) g1_17
            have f49 : M35 (P 19) = some (.inl (D.1 101, 2601, .inl (A 19))) := by rw [eM35]; exact hm_up_o (hm_neO (po 19 (by decide)) (po 0 (by decide)) (by decide)) g1_19
            have f50 : M35 (P 20) = some (.inl (D.1 102, 52, .inl (A 20))) := by rw [eM35]; exact hm_up_o (hm_neO (po 20 (by decide)) (po 0 (by decide)) (by decide)) g1_20
            have f51 : M35 (P 21) = some (.inl (D.1 102, 52, .inl (A 21))) := by rw [eM35]; exact hm_up_o (hm_neO (po 21 (by decide)) (po 0 (by decide)) (by decide)) g1_21
            have f52 : M35 (P 0) = some (.inr (6, [.int (I 0), .ref (P 1), .int (I 2), .ref (P 3), .ref (P 4), .ref (P 5), .int (I 6), .ref (P 7), .ref (P 8), .ref (P 9), .ref (P 10), .ref (P 11), .int (I 12), .int (I 13), .ref (P 14), .ref (P 15), .ref (P 16), .ref (P 17), .int (nI (ee + 1)), .ref (P 19), .ref (P 20), .ref (P 21)])) := by rw [eM35]; exact hm_up_s
            refine lv_goto (tgt := 8) hx hb dd_MO_readName_73 (by decide) ?_
            have kk53 : hm_k Mu8 Mu8 [(P 0)] := hm_krf
            have kk54 : hm_k Mu8 M35 [(P 0)] := hm_ku kk53 (Or.inr (by simp)) eM35
            exact ih8 (ee + 1) w34 M35 (by omega) (by omega) (fun j h8 h9 => by
                by_cases q : j = ee
                · subst q; exact hce
                · exact hrun j h8 (by omega)) (fun _ => by rw [ew34, ew32, ew33, hv (by omega), tx_sn he1 (by omega)]; exact cd_st (by omega)) (⟨f52, f36, f37, f38, f39, f40, f41, f42, f43, f44, f45, f46, f47, f48, f49, f50, f51, po, pb⟩) ((hF8).trans (cz_F.k0 kk54 (hm_a1 ⟨by rw [po 0 (by decide)]; unfold pm; omega, _, f52⟩))) (by omega) _ _ _ hP hS (lv_sub hl [1, 2, 0, 3] rfl)
  have f55 : M (P 0) = some (.inr (6, [.int (I 0), .ref (P 1), .int (I 2), .ref (P 3), .ref (P 4), .ref (P 5), .int (I 6), .ref (P 7), .ref (P 8), .ref (P 9), .ref (P 10), .ref (P 11), .int (I 12), .int (I 13), .ref (P 14), .ref (P 15), .ref (P 16), .ref (P 17), .int (nI a9), .ref (P 19), .ref (P 20), .ref (P 21)])) := p0.trans (by rw [hat])
  exact lp8 _ a9 0 M (Nat.le_refl _) (ha9) (fun j h8 h9 => absurd h9 (by omega)) (fun _ => by rw [tx_nl ha9]; rfl) (⟨f55, p1, p3, p4, p5, p7, p8, p9, p10, p11, p14, p15, p16, p17, p19, p20, p21, po, pb⟩) (cz_F.rf) (Nat.lt_succ_self _) _ _ _ hP hS (lv_sub hl [2, 3, 1, 0] rfl)
set_option maxHeartbeats 4000000 in
set_option maxRecDepth 100000 in
theorem kc_MO_readValue (l : Launch) (B : Nat) (D : va_G) (G : Nat → Nat) (M : hm_M) (P O : Nat → Nat) (I : Nat → Int32) (A : Nat → Nat → Int32) (L : Nat → Nat → Int64) (hD : mo_D B D P O M I A L) (t : List Nat) (hT : tpS (I 2) (A 1) t) (a9 : Nat) (ha9 : a9 ≤ t.length) (hat : I 18 = nI a9) : Met l yy_MO_readValue ws_MO_readValue ({ frames := 2, cells := 0, slots := 0, locals := 40 }) (hm_Pc B D G M [.ref (P 0), .int (nI t.length)]) (hm_Nl B D (fun r M1 => ∃ e, rn_E ch_part t a9 e ∧ r = (if e - a9 < 7 then cd (tx_sl t a9 e) else -1) ∧ mo_D B D P O M1 (va_up I 18 (nI e)) A L ∧ cz_F O M O M1 pm)) (0) (0) (hm_A B) := by
  refine Met.ofW (cc := cd_MO_readValue) (maxL := 5) (ret := ((some FieldType.long))) (by decide) rfl ?_
  intro p e s m args below meth c s₁ B0 hml hv
  obtain ⟨rfl, hE, hP⟩ := hv
  have hx := B0.exec
  have hb := B0.bytes
  have hr := B0.returns
  have hts : ∀ w ∈ tb_G, w.before _ s = true := fun w h => atoms_spec (ws := ws_MO_readValue) B0.pre w (List.mem_cons_of_mem _ h)
  have hown : s.vm.findClass "RouteDeskModel" = some m.cls := findClass_of_methodNamed B0.named
  have hlocks := B0.notSynchronized
  have hRf : (headSpec ws_MO_readValue { frames := 2, cells := 0, slots := 0, locals := 40 }).room.frames = 2 := rfl
  have hRl : (headSpec ws_MO_readValue { frames := 2, cells := 0, slots := 0, locals := 40 }).room.locals = 40 := rfl
  have hRc : (headSpec ws_MO_readValue { frames := 2, cells := 0, slots := 0, locals := 40 }).room.cells = 0 := rfl
  have hRs : (headSpec ws_MO_readValue { frames := 2, cells := 0, slots := 0, locals := 40 }).room.slots = 0 := rfl
  generalize (headSpec ws_MO_readValue { frames := 2, cells := 0, slots := 0, locals := 40 }).room = R at hRf hRl hRc hRs ⊢
  have hS : va_S (hm_A B) s.heap s.heap [] := va_S.rf
  have hl := lv_entry ([.ref (P 0), .int (nI t.length)]) (n := 5) (Nat.le_of_ble_eq_true rfl)
  rw [lg_entry_eq]
  generalize (lg_sl ([.ref (P 0), .int (nI t.length)]) ++ List.replicate (5 - (lg_sl ([.ref (P 0), .int (nI t.length)])).length) Slot.unset).toArray = ls at hl ⊢
  have hl : lv_has ls 5 [(0, .ref (P 0)), (1, .int (nI t.length))] := hl
  have t16 : (nI 16).toInt = 16 := by decide
  have tm1 : (-1 : Int32).toInt = -1 := by decide
  have t0 : (nI 0).toInt = 0 := by decide
  have t2 : (nI 2).toInt = 2 := by decide
  have t3 : (nI 3).toInt = 3 := by decide
  have t1 : (nI 1).toInt = 1 := by decide
  have t4 : (nI 4).toInt = 4 := by decide
  obtain ⟨p0, p1, p3, p4, p5, p7, p8, p9, p10, p11, p14, p15, p16, p17, p19, p20, p21, po, pb⟩ := id hD
  obtain ⟨ti1, ti2, ti3, ti4⟩ := id hT
  refine lv_lconst (v := 0) hx hb dd_MO_readValue_0 (by decide +kernel) ?_
  refine lv_lstore_n (lv' := [(2, .long 0), (0, .ref (P 0)), (1, .int (nI t.length))]) hx hb dd_MO_readValue_1 rfl hl (by decide) rfl (fun ls hl => ?_)
  refine lv_aload_n hx hb dd_MO_readValue_2 rfl (lv_at hl 1 rfl) ?_
  refine hm_get (ci := 6) (C := rn_MO) (T := ft_MO) (N := 22) hx hb hts fi_MO hown hE.K hP p0 rfl 18 (by decide) (hts _ tw_1004) (fun _ h9 => h9) rfl dd_MO_readValue_3 ?_
  refine W.eq (g2 := F0 m 6 ls [.int (nI a9)]) (by rw [hat]) ?_
  refine lv_istore (lv' := [(4, .int (nI a9)), (2, .long 0), (0, .ref (P 0)), (1, .int (nI t.length))]) hx hb dd_MO_readValue_6 hl (by decide) rfl (fun ls hl => ?_)
  have lp8 : ∀ (n9 : Nat) (ee : Nat) (v : Int64) (Mu8 : hm_M), (a9 ≤ ee) → (ee ≤ t.length) → (∀ j, a9 ≤ j → j < ee → ch_part (t.getD j 0) = true) → (ee - a9 ≤ 7 → v = cd (tx_sl t a9 ee)) → (mo_D B D P O Mu8 (va_up I 18 (nI ee)) A L) → (cz_F O M O Mu8 pm) → t.length - ee < n9 → ∀ (H : Heap) (locs : List Loc) (ls : Array Slot), hm_P D cl_W Mu8 H → va_S (hm_A B) s.heap H locs → lv_has ls 5 [(0, .ref (P 0)), (1, .int (nI t.length)), (2, .long v), (4, .int (nI a9))] → W p l e R s m ([.ref (P 0), .int (nI t.length)] : List Value).toArray below meth c H locs (0) (0) (MQ below (hm_Nl B D (fun r M1 => ∃ e, rn_E ch_part t a9 e ∧ r = (if e - a9 < 7 then cd (tx_sl t a9 e) else -1) ∧ mo_D B D P O M1 (va_up I 18 (nI e)) A L ∧ cz_F O M O M1 pm)) ([.ref (P 0), .int (nI t.length)] : List Value).toArray s (0) (0) (hm_A B)) (F0 m 8 ls []) := by
    intro n9
    induction n9 with
    | zero => intro ee v Mu8 he1 he2 hrun hv hd8 hF8 hm; exact absurd hm (Nat.not_lt_zero _)
    | succ n9 ih8 =>
      intro ee v Mu8 he1 he2 hrun hv hd8 hF8 hm H locs ls hP hS hl
      obtain ⟨g1_0, g1_1, g1_3, g1_4, g1_5, g1_7, g1_8, g1_9, g1_10, g1_11, g1_14, g1_15, g1_16, g1_17, g1_19, g1_20, g1_21, -, -⟩ := id hd8
      have g1_0 : Mu8 (P 0) = some (.inr (6, [.int (I 0), .ref (P 1), .int (I 2), .ref (P 3), .ref (P 4), .ref (P 5), .int (I 6), .ref (P 7), .ref (P 8), .ref (P 9), .ref (P 10), .ref (P 11), .int (I 12), .int (I 13), .ref (P 14), .ref (P 15), .ref (P 16), .ref (P 17), .int (nI ee), .ref (P 19), .ref (P 20), .ref (P 21)])) := g1_0
      have hle := tx_lt ti4 ee
      refine lv_aload_n hx hb dd_MO_readValue_8 rfl (lv_at hl 0 rfl) ?_
      refine hm_get (ci := 6) (C := rn_MO) (T := ft_MO) (N := 22) hx hb hts fi_MO hown hE.K hP g1_0 rfl 18 (by decide) (hts _ tw_1004) (fun _ h9 => h9) rfl dd_MO_readValue_9 ?_
      refine lv_iload_n hx hb dd_MO_readValue_12 rfl (lv_at hl 1 rfl) ?_
      refine hn_icmp_ge (tgt := 76) hx hb (by omega) (by omega) dd_MO_readValue_13 (by decide) (fun c2 => ?_) (fun c2 => ?_)
      · refine lv_aload_n hx hb dd_MO_readValue_76 rfl (lv_at hl 0 rfl) ?_
        refine hm_get (ci := 6) (C := rn_MO) (T := ft_MO) (N := 22) hx hb hts fi_MO hown hE.K hP g1_0 rfl 18 (by decide) (hts _ tw_1004) (fun _ h9 => h9) rfl dd_MO_readValue_77 ?_
        refine lv_iload hx hb dd_MO_readValue_80 (lv_at hl 3 rfl) ?_
        refine hn_isub hx hb (by omega) dd_MO_readValue_82 ?_
        refine lv_bipush (v := nI 7) hx hb dd_MO_readValue_83 (by decide +kernel) ?_
        refine hn_icmp_ge (tgt := 92) hx hb (by omega) (by omega) dd_MO_readValue_85 (by decide) (fun c3 => ?_) (fun c3 => ?_)
        · refine lv_ldc2 (v := -1) hx hb hown (hts _ tw_1122) dd_MO_readValue_92 ?_
          exact hm_El (v := (-1)) hx hb hr hS hP (⟨ee, ⟨he1, he2, hrun, fun h9 => absurd h9 (by omega)⟩, by rw [if_neg (by omega)], ⟨g1_0, g1_1, g1_3, g1_4, g1_5, g1_7, g1_8, g1_9, g1_10, g1_11, g1_14, g1_15, g1_16, g1_17, g1_19, g1_20, g1_21, po, pb⟩, hF8⟩) hlocks (by omega) (by omega) dd_MO_readValue_95
        · refine lv_lload_n hx hb dd_MO_readValue_88 rfl (lv_at hl 2 rfl) ?_
          refine lv_goto (tgt := 95) hx hb dd_MO_readValue_89 (by decide) ?_
          exact hm_El (v := v) hx hb hr hS hP (⟨ee, ⟨he1, he2, hrun, fun h9 => absurd h9 (by omega)⟩, by rw [if_pos (by omega)]; exact hv (by omega), ⟨g1_0, g1_1, g1_3, g1_4, g1_5, g1_7, g1_8, g1_9, g1_10, g1_11, g1_14, g1_15, g1_16, g1_17, g1_19, g1_20, g1_21, po, pb⟩, hF8⟩) hlocks (by omega) (by omega) dd_MO_readValue_95
      · refine lv_aload_n hx hb dd_MO_readValue_16 rfl (lv_at hl 0 rfl) ?_
        refine hm_get (ci := 6) (C := rn_MO) (T := ft_MO) (N := 22) hx hb hts fi_MO hown hE.K hP g1_0 rfl 1 (by decide) (hts _ tw_987) (fun _ h9 => h9) rfl dd_MO_readValue_17 ?_
        refine lv_aload_n hx hb dd_MO_readValue_20 rfl (lv_at hl 0 rfl) ?_
        refine hm_get (ci := 6) (C := rn_MO) (T := ft_MO) (N := 22) hx hb hts fi_MO hown hE.K hP g1_0 rfl 18 (by decide) (hts _ tw_1004) (fun _ h9 => h9) rfl dd_MO_readValue_21 ?_
        refine hm_iald (j := ee) hx hb hE.K hP 2 g1_1 rfl (vp_in_nI (by omega) (by omega)) (nI_clamp (by omega)) dd_MO_readValue_24 ?_
        refine W.eq (g2 := F0 m 25 ls [.int (nI (t.getD ee 0))]) (by rw [ti2 ee (by omega)]) ?_
        refine hm_ci hS (hm_rS 1 (As := [.int (nI (t.getD ee 0))]) (rest := []) ⟨hx, hb, hml, hown, hts⟩ hE hS hP (kc_MO_isPart l B D G Mu8 (t.getD ee 0) (by omega)) tw_1129 tw_1127 tw_1128 tw_46 (by decide +kernel) rfl rfl ⟨by show 1 + 1 ≤ R.frames; omega, by show 8 + (1 + 11) + 20 ≤ R.locals; omega⟩ rfl hl.1 rfl (Nat.le_of_ble_eq_true rfl) dd_MO_readValue_25 ⟨by omega, by omega⟩) (fun r4 M5 H locs hw6 hP hS => ?_)
        refine W.widen (k := 0) (n := 0) (by omega) (by omega) ?_
        obtain ⟨rfl, eM5⟩ := hw6
        rw [eM5] at hP
        refine hn_if_eq (tgt := 76) hx hb (bz_b _) dd_MO_readValue_28 (by decide) (fun c7 => ?_) (fun c7 => ?_)
        · have hce := bz_f c7
          refine lv_aload_n hx hb dd_MO_readValue_76 rfl (lv_at hl 0 rfl) ?_
          refine hm_get (ci := 6) (C := rn_MO) (T := ft_MO) (N := 22) hx hb hts fi_MO hown hE.K hP g1_0 rfl 18 (by decide) (hts _ tw_1004) (fun _ h9 => h9) rfl dd_MO_readValue_77 ?_
          refine lv_iload hx hb dd_MO_readValue_80 (lv_at hl 3 rfl) ?_
          refine hn_isub hx hb (by omega) dd_MO_readValue_82 ?_
          refine lv_bipush (v := nI 7) hx hb dd_MO_readValue_83 (by decide +kernel) ?_
          refine hn_icmp_ge (tgt := 92) hx hb (by omega) (by omega) dd_MO_readValue_85 (by decide) (fun c8 => ?_) (fun c8 => ?_)
          · refine lv_ldc2 (v := -1) hx hb hown (hts _ tw_1122) dd_MO_readValue_92 ?_
            exact hm_El (v := (-1)) hx hb hr hS hP (⟨ee, ⟨he1, he2, hrun, fun _ => hce⟩, by rw [if_neg (by omega)], ⟨g1_0, g1_1, g1_3, g1_4, g1_5, g1_7, g1_8, g1_9, g1_10, g1_11, g1_14, g1_15, g1_16, g1_17, g1_19, g1_20, g1_21, po, pb⟩, hF8⟩) hlocks (by omega) (by omega) dd_MO_readValue_95
          · refine lv_lload_n hx hb dd_MO_readValue_88 rfl (lv_at hl 2 rfl) ?_
            refine lv_goto (tgt := 95) hx hb dd_MO_readValue_89 (by decide) ?_
            exact hm_El (v := v) hx hb hr hS hP (⟨ee, ⟨he1, he2, hrun, fun _ => hce⟩, by rw [if_pos (by omega)]; exact hv (by omega), ⟨g1_0, g1_1, g1_3, g1_4, g1_5, g1_7, g1_8, g1_9, g1_10, g1_11, g1_14, g1_15, g1_16, g1_17, g1_19, g1_20, g1_21, po, pb⟩, hF8⟩) hlocks (by omega) (by omega) dd_MO_readValue_95
        · have hce := bz_t c7
          refine lv_aload_n hx hb dd_MO_readValue_31 rfl (lv_at hl 0 rfl) ?_
          refine hm_get (ci := 6) (C := rn_MO) (T := ft_MO) (N := 22) hx hb hts fi_MO hown hE.K hP g1_0 rfl 18 (by decide) (hts _ tw_1004) (fun _ h9 => h9) rfl dd_MO_readValue_32 ?_
          refine lv_iload hx hb dd_MO_readValue_35 (lv_at hl 3 rfl) ?_
          refine hn_isub hx hb (by omega) dd_MO_readValue_37 ?_
          refine lv_bipush (v := nI 7) hx hb dd_MO_readValue_38 (by decide +kernel) ?_
          refine hn_icmp_ge (tgt := 61) hx hb (by omega) (by omega) dd_MO_readValue_40 (by decide) (fun c9 => ?_) (fun c9 => ?_)
          · refine lv_lload_n hx hb dd_MO_readValue_61 rfl (lv_at hl 2 rfl) ?_
            refine lv_lstore_n (lv' := [(2, .long v), (0, .ref (P 0)), (1, .int (nI t.length)), (4, .int (nI a9))]) hx hb dd_MO_readValue_62 rfl hl (by decide) rfl (fun ls hl => ?_)
            refine lv_aload_n hx hb dd_MO_readValue_63 rfl (lv_at hl 1 rfl) ?_
            refine lv_dup hx hb dd_MO_readValue_64 rfl ?_
            refine hm_get (ci := 6) (C := rn_MO) (T := ft_MO) (N := 22) hx hb hts fi_MO hown hE.K hP g1_0 rfl 18 (by decide) (hts _ tw_1004) (fun _ h9 => h9) rfl dd_MO_readValue_65 ?_
            refine lv_iconst (v := nI 1) hx hb dd_MO_readValue_68 (by decide +kernel) ?_
            refine hn_iadd hx hb dd_MO_readValue_69 ?_
            refine hm_put (ci := 6) (v := .int (nI (ee + 1))) (ty := .int) (C := rn_MO) (T := ft_MO) (N := 22) hx hb hts fi_MO fy_MO fo_MO fn_MO hown hE.K hP hS (pb 0 (by decide)) g1_0 rfl 18 (by decide) (hts _ tw_1004) (fun _ h9 => h9) rfl (by decide +kernel) rfl rfl (Nat.le_of_ble_eq_true rfl) dd_MO_readValue_70 (fun H locs hP hS => ?_)
            have hP : hm_P D cl_W (hm_up Mu8 (P 0) (.inr (6, [.int (I 0), .ref (P 1), .int (I 2), .ref (P 3), .ref (P 4), .ref (P 5), .int (I 6), .ref (P 7), .ref (P 8), .ref (P 9), .ref (P 10), .ref (P 11), .int (I 12), .int (I 13), .ref (P 14), .ref (P 15), .ref (P 16), .ref (P 17), .int (nI (ee + 1)), .ref (P 19), .ref (P 20), .ref (P 21)]))) H := hP
            obtain ⟨M10, eM10⟩ : ∃ z, z = hm_up Mu8 (P 0) (.inr (6, [.int (I 0), .ref (P 1), .int (I 2), .ref (P 3), .ref (P 4), .ref (P 5), .int (I 6), .ref (P 7), .ref (P 8), .ref (P 9), .ref (P 10), .ref (P 11), .int (I 12), .int (I 13), .ref (P 14), .ref (P 15), .ref (P 16), .ref (P 17), .int (nI (ee + 1)), .ref (P 19), .ref (P 20), .ref (P 21)])) := ⟨_, rfl⟩
            rw [← eM10] at hP
            have f11 : M10 (P 1) = some (.inl (D.1 102, 48, .inl (A 1))) := by rw [eM10]; exact hm_up_o (hm_neO (po 1 (by decide)) (po 0 (by decide)) (by decide)) g1_1
            have f12 : M10 (P 3) = some (.inl (D.1 102, 16, .inl (A 3))) := by rw [eM10]; exact hm_up_o (hm_neO (po 3 (by decide)) (po 0 (by decide)) (by decide)) g1_3
            have f13 : M10 (P 4) = some (.inl (D.1 102, 16, .inl (A 4))) := by rw [eM10]; exact hm_up_o (hm_neO (po 4 (by decide)) (po 0 (by decide)) (by decide)) g1_4
            have f14 : M10 (P 5) = some (.inl (D.1 101, 16, .inl (A 5))) := by rw [eM10]; exact hm_up_o (hm_neO (po 5 (by decide)) (po 0 (by decide)) (by decide)) g1_5
            have f15 : M10 (P 7) = some (.inl (D.1 102, 120, .inl (A 7))) := by rw [eM10]; exact hm_up_o (hm_neO (po 7 (by decide)) (po 0 (by decide)) (by decide)) g1_7
            have f16 : M10 (P 8) = some (.inl (D.1 102, 120, .inl (A 8))) := by rw [eM10]; exact hm_up_o (hm_neO (po 8 (by decide)) (po 0 (by decide)) (by decide)) g1_8
            have f17 : M10 (P 9) = some (.inl (D.1 102, 120, .inl (A 9))) := by rw [eM10]; exact hm_up_o (hm_neO (po 9 (by decide)) (po 0 (by decide)) (by decide)) g1_9
            have f18 : M10 (P 10) = some (.inl (D.1 102, 5760, .inl (A 10))) := by rw [eM10]; exact hm_up_o (hm_neO (po 10 (by decide)) (po 0 (by decide)) (by decide)) g1_10
            have f19 : M10 (P 11) = some (.inl (D.1 102, 48, .inl (A 11))) := by rw [eM10]; exact hm_up_o (hm_neO (po 11 (by decide)) (po 0 (by decide)) (by decide)) g1_11
            have f20 : M10 (P 14) = some (.inl (D.1 103, 6, .inr (.inl (L 14)))) := by rw [eM10]; exact hm_up_o (hm_neO (po 14 (by decide)) (po 0 (by decide)) (by decide)) g1_14
            have f21 : M10 (P 15) = some (.inl (D.1 103, 6, .inr (.inl (L 15)))) := by rw [eM10]; exact hm_up_o (hm_neO (po 15 (by decide)) (po 0 (by decide)) (by decide)) g1_15
            have f22 : M10 (P 16) = some (.inl (D.1 101, 16, .inl (A 16))) := by rw [eM10]; exact hm_up_o (hm_neO (po 16 (by decide)) (po 0 (by decide)) (by decide)) g1_16
            have f23 : M10 (P 17) = some (.inl (D.1 101, 16, .inl (A 17))) := by rw [eM10]; exact hm_up_o (hm_neO (po 17 (by decide)) (po 0 (by decide)) (by decide)) g1_17
            have f24 : M10 (P 19) = some (.inl (D.1 101, 2601, .inl (A 19))) := by rw [eM10]; exact hm_up_o (hm_neO (po 19 (by decide)) (po 0 (by decide)) (by decide)) g1_19
            have f25 : M10 (P 20) = some (.inl (D.1 102, 52, .inl (A 20))) := by rw [eM10]; exact hm_up_o (hm_neO (po 20 (by decide)) (po 0 (by decide)) (by decide)) g1_20
            have f26 : M10 (P 21) = some (.inl (D.1 102, 52, .inl (A 21))) := by rw [eM10]; exact hm_up_o (hm_neO (po 21 (by decide)) (po 0 (by decide)) (by decide)) g1_21
            have f27 : M10 (P 0) = some (.inr (6, [.int (I 0), .ref (P 1), .int (I 2), .ref (P 3), .ref (P 4), .ref (P 5), .int (I 6), .ref (P 7), .ref (P 8), .ref (P 9), .ref (P 10), .ref (P 11), .int (I 12), .int (I 13), .ref (P 14), .ref (P 15), .ref (P 16), .ref (P 17), .int (nI (ee + 1)), .ref (P 19), .ref (P 20), .ref (P 21)])) := by rw [eM10]; exact hm_up_s
            refine lv_goto (tgt := 8) hx hb dd_MO_readValue_73 (by decide) ?_
            have kk28 : hm_k Mu8 Mu8 [(P 0)] := hm_krf
            have kk29 : hm_k Mu8 M10 [(P 0)] := hm_ku kk28 (Or.inr (by simp)) eM10
            exact ih8 (ee + 1) v M10 (by omega) (by omega) (fun j h8 h9 => by
                by_cases q : j = ee
                · subst q; exact hce
                · exact hrun j h8 (by omega)) (fun h9 => absurd h9 (by omega)) (⟨f27, f11, f12, f13, f14, f15, f16, f17, f18, f19, f20, f21, f22, f23, f24, f25, f26, po, pb⟩) ((hF8).trans (cz_F.k0 kk29 (hm_a1 ⟨by rw [po 0 (by decide)]; unfold pm; omega, _, f27⟩))) (by omega) _ _ _ hP hS (lv_sub hl [1, 2, 0, 3] rfl)
          · refine lv_lload_n hx hb dd_MO_readValue_43 rfl (lv_at hl 2 rfl) ?_
            refine lv_bipush (v := nI 8) hx hb dd_MO_readValue_44 (by decide +kernel) ?_
            refine lv_lshl hx hb dd_MO_readValue_46 rfl ?_
            refine lv_topl (fun w30 ew30 => ?_)
            refine lv_aload_n hx hb dd_MO_readValue_47 rfl (lv_at hl 0 rfl) ?_
            refine hm_get (ci := 6) (C := rn_MO) (T := ft_MO) (N := 22) hx hb hts fi_MO hown hE.K hP g1_0 rfl 1 (by decide) (hts _ tw_987) (fun _ h9 => h9) rfl dd_MO_readValue_48 ?_
            refine lv_aload_n hx hb dd_MO_readValue_51 rfl (lv_at hl 0 rfl) ?_
            refine hm_get (ci := 6) (C := rn_MO) (T := ft_MO) (N := 22) hx hb hts fi_MO hown hE.K hP g1_0 rfl 18 (by decide) (hts _ tw_1004) (fun _ h9 => h9) rfl dd_MO_readValue_52 ?_
            refine hm_iald (j := ee) hx hb hE.K hP 2 g1_1 rfl (vp_in_nI (by omega) (by omega)) (nI_clamp (by omega)) dd_MO_readValue_55 ?_
            refine W.eq (g2 := F0 m 56 ls [.int (nI (t.getD ee 0)), .long w30]) (by rw [ti2 ee (by omega)]) ?_
            refine lv_i2l hx hb dd_MO_readValue_56 rfl ?_
            refine lv_topl (fun w31 ew31 => ?_)
            refine lv_lor hx hb dd_MO_readValue_57 ?_
            refine lv_topl (fun w32 ew32 => ?_)
            refine lv_goto (tgt := 62) hx hb dd_MO_readValue_58 (by decide) ?_
            refine lv_lstore_n (lv' := [(2, .long w32), (0, .ref (P 0)), (1, .int (nI t.length)), (4, .int (nI a9))]) hx hb dd_MO_readValue_62 rfl hl (by decide) rfl (fun ls hl => ?_)
            refine lv_aload_n hx hb dd_MO_readValue_63 rfl (lv_at hl 1 rfl) ?_
            refine lv_dup hx hb dd_MO_readValue_64 rfl ?_
            refine hm_get (ci := 6) (C := rn_MO) (T := ft_MO) (N := 22) hx hb hts fi_MO hown hE.K hP g1_0 rfl 18 (by decide) (hts _ tw_1004) (fun _ h9 => h9) rfl dd_MO_readValue_65 ?_
            refine lv_iconst (v := nI 1) hx hb dd_MO_readValue_68 (by decide +kernel) ?_
            refine hn_iadd hx hb dd_MO_readValue_69 ?_
            refine hm_put (ci := 6) (v := .int (nI (ee + 1))) (ty := .int) (C := rn_MO) (T := ft_MO) (N := 22) hx hb hts fi_MO fy_MO fo_MO fn_MO hown hE.K hP hS (pb 0 (by decide)) g1_0 rfl 18 (by decide) (hts _ tw_1004) (fun _ h9 => h9) rfl (by decide +kernel) rfl rfl (Nat.le_of_ble_eq_true rfl) dd_MO_readValue_70 (fun H locs hP hS => ?_)
            have hP : hm_P D cl_W (hm_up Mu8 (P 0) (.inr (6, [.int (I 0), .ref (P 1), .int (I 2), .ref (P 3), .ref (P 4), .ref (P 5), .int (I 6), .ref (P 7), .ref (P 8), .ref (P 9), .ref (P 10), .ref (P 11), .int (I 12), .int (I 13), .ref (P 14), .ref (P 15), .ref (P 16), .ref (P 17), .int (nI (ee + 1)), .ref (P 19), .ref (P 20), .ref (P 21)]))) H := hP
            obtain ⟨M33, eM33⟩ : ∃ z, z = hm_up Mu8 (P 0) (.inr (6, [.int (I 0), .ref (P 1), .int (I 2), .ref (P 3), .ref (P 4), .ref (P 5), .int (I 6), .ref (P 7), .ref (P 8), .ref (P 9), .ref (P 10), .ref (P 11), .int (I 12), .int (I 13), .ref (P 14), .ref (P 15), .ref (P 16), .ref (P 17), .int (nI (ee + 1)), .ref (P 19), .ref (P 20), .ref (P 21)])) := ⟨_, rfl⟩
            rw [← eM33] at hP
            have f34 : M33 (P 1) = some (.inl (D.1 102, 48, .inl (A 1))) := by rw [eM33]; exact hm_up_o (hm_neO (po 1 (by decide)) (po 0 (by decide)) (by decide)) g1_1
            have f35 : M33 (P 3) = some (.inl (D.1 102, 16, .inl (A 3))) := by rw [eM33]; exact hm_up_o (hm_neO (po 3 (by decide)) (po 0 (by decide)) (by decide)) g1_3
            have f36 : M33 (P 4) = some (.inl (D.1 102, 16, .inl (A 4))) := by rw [eM33]; exact hm_up_o (hm_neO (po 4 (by decide)) (po 0 (by decide)) (by decide)) g1_4
            have f37 : M33 (P 5) = some (.inl (D.1 101, 16, .inl (A 5))) := by rw [eM33]; exact hm_up_o (hm_neO (po 5 (by decide)) (po 0 (by decide)) (by decide)) g1_5
            have f38 : M33 (P 7) = some (.inl (D.1 102, 120, .inl (A 7))) := by rw [eM33]; exact hm_up_o (hm_neO (po 7 (by decide)) (po 0 (by decide)) (by decide)) g1_7
            have f39 : M33 (P 8) = some (.inl (D.1 102, 120, .inl (A 8))) := by rw [eM33]; exact hm_up_o (hm_neO (po 8 (by decide)) (po 0 (by decide)) (by decide)) g1_8
            have f40 : M33 (P 9) = some (.inl (D.1 102, 120, .inl (A 9))) := by rw [eM33]; exact hm_up_o (hm_neO (po 9 (by decide)) (po 0 (by decide)) (by decide)) g1_9
            have f41 : M33 (P 10) = some (.inl (D.1 102, 5760, .inl (A 10))) := by rw [eM33]; exact hm_up_o (hm_neO (po 10 (by decide)) (po 0 (by decide)) (by decide)) g1_10
            have f42 : M33 (P 11) = some (.inl (D.1 102, 48, .inl (A 11))) := by rw [eM33]; exact hm_up_o (hm_neO (po 11 (by decide)) (po 0 (by decide)) (by decide)) g1_11
            have f43 : M33 (P 14) = some (.inl (D.1 103, 6, .inr (.inl (L 14)))) := by rw [eM33]; exact hm_up_o (hm_neO (po 14 (by decide)) (po 0 (by decide)) (by decide)) g1_14
            have f44 : M33 (P 15) = some (.inl (D.1 103, 6, .inr (.inl (L 15)))) := by rw [eM33]; exact hm_up_o (hm_neO (po 15 (by decide)) (po 0 (by decide)) (by decide)) g1_15
            have f45 : M33 (P 16) = some (.inl (D.1 101, 16, .inl (A 16))) := by rw [eM33]; exact hm_up_o (hm_neO (po 16 (by decide)) (po 0 (by decide)) (by decide)) g1_16
            have f46 : M33 (P 17) = some (.inl (D.1 101, 16, .inl (A 17))) := by rw [eM33]; exact hm_up_o (hm_neO (po 17 (by decide)) (po 0 (by decide)) (by decide)) g1_17
            have f47 : M33 (P 19) = some (.inl (D.1 101, 2601, .inl (A 19))) := by rw [eM33]; exact hm_up_o (hm_neO (po 19 (by decide)) (po 0 (by decide)) (by decide)) g1_19
            have f48 : M33 (P 20) = some (.inl (D.1 102, 52, .inl (A 20))) := by rw [eM33]; exact hm_up_o (hm_neO (po 20 (by decide)) (po 0 (by decide)) (by decide)) g1_20
            have f49 : M33 (P 21) = some (.inl (D.1 102, 52, .inl (A 21))) := by rw [eM33]; exact hm_up_o (hm_neO (po 21 (by decide)) (po 0 (by decide)) (by decide)) g1_21
            have f50 : M33 (P 0) = some (.inr (6, [.int (I 0), .ref (P 1), .int (I 2), .ref (P 3), .ref (P 4), .ref (P 5), .int (I 6), .ref (P 7), .ref (P 8), .ref (P 9), .ref (P 10), .ref (P 11), .int (I 12), .int (I 13), .ref (P 14), .ref (P 15), .ref (P 16), .ref (P 17), .int (nI (ee + 1)), .ref (P 19), .ref (P 20), .ref (P 21)])) := by rw [eM33]; exact hm_up_s
            refine lv_goto (tgt := 8) hx hb dd_MO_readValue_73 (by decide) ?_
            have kk51 : hm_k Mu8 Mu8 [(P 0)] := hm_krf
            have kk52 : hm_k Mu8 M33 [(P 0)] := hm_ku kk51 (Or.inr (by simp)) eM33
            exact ih8 (ee + 1) w32 M33 (by omega) (by omega) (fun j h8 h9 => by
                by_cases q : j = ee
                · subst q; exact hce
                · exact hrun j h8 (by omega)) (fun _ => by rw [ew32, ew30, ew31, hv (by omega), tx_sn he1 (by omega)]; exact cd_st (by omega)) (⟨f50, f34, f35, f36, f37, f38, f39, f40, f41, f42, f43, f44, f45, f46, f47, f48, f49, po, pb⟩) ((hF8).trans (cz_F.k0 kk52 (hm_a1 ⟨by rw [po 0 (by decide)]; unfold pm; omega, _, f50⟩))) (by omega) _ _ _ hP hS (lv_sub hl [1, 2, 0, 3] rfl)
  have f53 : M (P 0) = some (.inr (6, [.int (I 0), .ref (P 1), .int (I 2), .ref (P 3), .ref (P 4), .ref (P 5), .int (I 6), .ref (P 7), .ref (P 8), .ref (P 9), .ref (P 10), .ref (P 11), .int (I 12), .int (I 13), .ref (P 14), .ref (P 15), .ref (P 16), .ref (P 17), .int (nI a9), .ref (P 19), .ref (P 20), .ref (P 21)])) := p0.trans (by rw [hat])
  exact lp8 _ a9 0 M (Nat.le_refl _) (ha9) (fun j h8 h9 => absurd h9 (by omega)) (fun _ => by rw [tx_nl ha9]; rfl) (⟨f53, p1, p3, p4, p5, p7, p8, p9, p10, p11, p14, p15, p16, p17, p19, p20, p21, po, pb⟩) (cz_F.rf) (Nat.lt_succ_self _) _ _ _ hP hS (lv_sub hl [2, 3, 1, 0] rfl)
set_option maxHeartbeats 4000000 in
set_option maxRecDepth 100000 in
theorem kc_MO_isHeaders (l : Launch) (B : Nat) (D : va_G) (G : Nat → Nat) (M : hm_M) (P O : Nat → Nat) (I : Nat → Int32) (A : Nat → Nat → Int32) (L : Nat → Nat → Int64) (hD : mo_D B D P O M I A L) (t : List Nat) (hT : tpS (I 2) (A 1) t) : Met l yy_MO_isHeaders ws_MO_isHeaders ({ frames := 3, cells := 0, slots := 0, locals := 64 }) (hm_Pc B D G M [.ref (P 0)]) (hm_Ni B D (fun r M1 => r = nI (bz (ru_ok t)) ∧ ∃ z, mo_D B D P O M1 (va_up I 18 z) A L ∧ cz_F O M O M1 pm)) (0) (0) (hm_A B) := by
  refine Met.ofW (cc := cd_MO_isHeaders) (maxL := 3) (ret := ((some FieldType.boolean))) (by decide) rfl ?_
  intro p e s m args below meth c s₁ B0 hml hv
  obtain ⟨rfl, hE, hP⟩ := hv
  have hx := B0.exec
  have hb := B0.bytes
  have hr := B0.returns
  have hts : ∀ w ∈ tb_G, w.before _ s = true := fun w h => atoms_spec (ws := ws_MO_isHeaders) B0.pre w (List.mem_cons_of_mem _ h)
  have hown : s.vm.findClass "RouteDeskModel" = some m.cls := findClass_of_methodNamed B0.named
  have hlocks := B0.notSynchronized
  have hRf : (headSpec ws_MO_isHeaders { frames := 3, cells := 0, slots := 0, locals := 64 }).room.frames = 3 := rfl
  have hRl : (headSpec ws_MO_isHeaders { frames := 3, cells := 0, slots := 0, locals := 64 }).room.locals = 64 := rfl
  have hRc : (headSpec ws_MO_isHeaders { frames := 3, cells := 0, slots := 0, locals := 64 }).room.cells = 0 := rfl
  have hRs : (headSpec ws_MO_isHeaders { frames := 3, cells := 0, slots := 0, locals := 64 }).room.slots = 0 := rfl
  generalize (headSpec ws_MO_isHeaders { frames := 3, cells := 0, slots := 0, locals := 64 }).room = R at hRf hRl hRc hRs ⊢
  have hS : va_S (hm_A B) s.heap s.heap [] := va_S.rf
  have hl := lv_entry ([.ref (P 0)]) (n := 3) (Nat.le_of_ble_eq_true rfl)
  rw [lg_entry_eq]
  generalize (lg_sl ([.ref (P 0)]) ++ List.replicate (3 - (lg_sl ([.ref (P 0)])).length) Slot.unset).toArray = ls at hl ⊢
  have hl : lv_has ls 3 [(0, .ref (P 0))] := hl
  have t16 : (nI 16).toInt = 16 := by decide
  have tm1 : (-1 : Int32).toInt = -1 := by decide
  have t0 : (nI 0).toInt = 0 := by decide
  have t2 : (nI 2).toInt = 2 := by decide
  have t3 : (nI 3).toInt = 3 := by decide
  have t1 : (nI 1).toInt = 1 := by decide
  have t4 : (nI 4).toInt = 4 := by decide
  obtain ⟨p0, p1, p3, p4, p5, p7, p8, p9, p10, p11, p14, p15, p16, p17, p19, p20, p21, po, pb⟩ := id hD
  obtain ⟨ti1, ti2, ti3, ti4⟩ := id hT
  have hx0 := tx_lt ti4 0
  have hx1 := tx_lt ti4 1
  have hx2 := tx_lt ti4 2
  have J79 : ∀ (g0 : Bool), (ru_hd t = g0) → (g0 = true → 2 < t.length) → ∀ (H : Heap) (locs : List Loc) (ls : Array Slot), hm_P D cl_W M H → va_S (hm_A B) s.heap H locs → lv_has ls 3 [(0, .ref (P 0))] → W p l e R s m ([.ref (P 0)] : List Value).toArray below meth c H locs (0) (0) (MQ below (hm_Ni B D (fun r M1 => r = nI (bz (ru_ok t)) ∧ ∃ z, mo_D B D P O M1 (va_up I 18 z) A L ∧ cz_F O M O M1 pm)) ([.ref (P 0)] : List Value).toArray s (0) (0) (hm_A B)) (F0 m 79 ls [.int (nI (bz g0))]) := by
    intro g0 hhd hlen H locs ls hP hS hl
    refine lv_istore_n (lv' := [(1, .int (nI (bz g0))), (0, .ref (P 0))]) hx hb dd_MO_isHeaders_79 rfl hl (by decide) rfl (fun ls hl => ?_)
    refine lv_aload_n hx hb dd_MO_isHeaders_80 rfl (lv_at hl 1 rfl) ?_
    refine lv_iconst (v := nI 3) hx hb dd_MO_isHeaders_81 (by decide +kernel) ?_
    refine hm_put (ci := 6) (v := .int (nI 3)) (ty := .int) (C := rn_MO) (T := ft_MO) (N := 22) hx hb hts fi_MO fy_MO fo_MO fn_MO hown hE.K hP hS (pb 0 (by decide)) p0 rfl 18 (by decide) (hts _ tw_1004) (fun _ h9 => h9) rfl (by decide +kernel) rfl rfl (Nat.le_of_ble_eq_true rfl) dd_MO_isHeaders_82 (fun H locs hP hS => ?_)
    have hP : hm_P D cl_W (hm_up M (P 0) (.inr (6, [.int (I 0), .ref (P 1), .int (I 2), .ref (P 3), .ref (P 4), .ref (P 5), .int (I 6), .ref (P 7), .ref (P 8), .ref (P 9), .ref (P 10), .ref (P 11), .int (I 12), .int (I 13), .ref (P 14), .ref (P 15), .ref (P 16), .ref (P 17), .int (nI 3), .ref (P 19), .ref (P 20), .ref (P 21)]))) H := hP
    obtain ⟨M1, eM1⟩ : ∃ z, z = hm_up M (P 0) (.inr (6, [.int (I 0), .ref (P 1), .int (I 2), .ref (P 3), .ref (P 4), .ref (P 5), .int (I 6), .ref (P 7), .ref (P 8), .ref (P 9), .ref (P 10), .ref (P 11), .int (I 12), .int (I 13), .ref (P 14), .ref (P 15), .ref (P 16), .ref (P 17), .int (nI 3), .ref (P 19), .ref (P 20), .ref (P 21)])) := ⟨_, rfl⟩
    rw [← eM1] at hP
    have f2 : M1 (P 1) = some (.inl (D.1 102, 48, .inl (A 1))) := by rw [eM1]; exact hm_up_o (hm_neO (po 1 (by decide)) (po 0 (by decide)) (by decide)) p1
    have f3 : M1 (P 3) = some (.inl (D.1 102, 16, .inl (A 3))) := by rw [eM1]; exact hm_up_o (hm_neO (po 3 (by decide)) (po 0 (by decide)) (by decide)) p3
    have f4 : M1 (P 4) = some (.inl (D.1 102, 16, .inl (A 4))) := by rw [eM1]; exact hm_up_o (hm_neO (po 4 (by decide)) (po 0 (by decide)) (by decide)) p4
    have f5 : M1 (P 5) = some (.inl (D.1 101, 16, .inl (A 5))) := by rw [eM1]; exact hm_up_o (hm_neO (po 5 (by decide)) (po 0 (by decide)) (by decide)) p5
    have f6 : M1 (P 7) = some (.inl (D.1 102, 120, .inl (A 7))) := by rw [eM1]; exact hm_up_o (hm_neO (po 7 (by decide)) (po 0 (by decide)) (by decide)) p7
    have f7 : M1 (P 8) = some (.inl (D.1 102, 120, .inl (A 8))) := by rw [eM1]; exact hm_up_o (hm_neO (po 8 (by decide)) (po 0 (by decide)) (by decide)) p8
    have f8 : M1 (P 9) = some (.inl (D.1 102, 120, .inl (A 9))) := by rw [eM1]; exact hm_up_o (hm_neO (po 9 (by decide)) (po 0 (by decide)) (by decide)) p9
    have f9 : M1 (P 10) = some (.inl (D.1 102, 5760, .inl (A 10))) := by rw [eM1]; exact hm_up_o (hm_neO (po 10 (by decide)) (po 0 (by decide)) (by decide)) p10
    have f10 : M1 (P 11) = some (.inl (D.1 102, 48, .inl (A 11))) := by rw [eM1]; exact hm_up_o (hm_neO (po 11 (by decide)) (po 0 (by decide)) (by decide)) p11
    have f11 : M1 (P 14) = some (.inl (D.1 103, 6, .inr (.inl (L 14)))) := by rw [eM1]; exact hm_up_o (hm_neO (po 14 (by decide)) (po 0 (by decide)) (by decide)) p14
    have f12 : M1 (P 15) = some (.inl (D.1 103, 6, .inr (.inl (L 15)))) := by rw [eM1]; exact hm_up_o (hm_neO (po 15 (by decide)) (po 0 (by decide)) (by decide)) p15
    have f13 : M1 (P 16) = some (.inl (D.1 101, 16, .inl (A 16))) := by rw [eM1]; exact hm_up_o (hm_neO (po 16 (by decide)) (po 0 (by decide)) (by decide)) p16
    have f14 : M1 (P 17) = some (.inl (D.1 101, 16, .inl (A 17))) := by rw [eM1]; exact hm_up_o (hm_neO (po 17 (by decide)) (po 0 (by decide)) (by decide)) p17
    have f15 : M1 (P 19) = some (.inl (D.1 101, 2601, .inl (A 19))) := by rw [eM1]; exact hm_up_o (hm_neO (po 19 (by decide)) (po 0 (by decide)) (by decide)) p19
    have f16 : M1 (P 20) = some (.inl (D.1 102, 52, .inl (A 20))) := by rw [eM1]; exact hm_up_o (hm_neO (po 20 (by decide)) (po 0 (by decide)) (by decide)) p20
    have f17 : M1 (P 21) = some (.inl (D.1 102, 52, .inl (A 21))) := by rw [eM1]; exact hm_up_o (hm_neO (po 21 (by decide)) (po 0 (by decide)) (by decide)) p21
    have f18 : M1 (P 0) = some (.inr (6, [.int (I 0), .ref (P 1), .int (I 2), .ref (P 3), .ref (P 4), .ref (P 5), .int (I 6), .ref (P 7), .ref (P 8), .ref (P 9), .ref (P 10), .ref (P 11), .int (I 12), .int (I 13), .ref (P 14), .ref (P 15), .ref (P 16), .ref (P 17), .int (nI 3), .ref (P 19), .ref (P 20), .ref (P 21)])) := by rw [eM1]; exact hm_up_s
    refine lv_iconst (v := nI 0) hx hb dd_MO_isHeaders_85 (by decide +kernel) ?_
    refine lv_istore_n (lv' := [(2, .int (nI 0)), (1, .int (nI (bz g0))), (0, .ref (P 0))]) hx hb dd_MO_isHeaders_86 rfl hl (by decide) rfl (fun ls hl => ?_)
    have lp87 : ∀ (n9 : Nat) (a : Nat) (n : Nat) (g : Bool) (Mu87 : hm_M), (a ≤ 49) → (n ≤ a) → (g = true → a ≤ t.length) → (ru_ok t = (g && rs_i t n a)) → (mo_D B D P O Mu87 (va_up I 18 (nI a)) A L) → (cz_F O M O Mu87 pm) → 50 - a < n9 → ∀ (H : Heap) (locs : List Loc) (ls : Array Slot), hm_P D cl_W Mu87 H → va_S (hm_A B) s.heap H locs → lv_has ls 3 [(0, .ref (P 0)), (1, .int (nI (bz g))), (2, .int (nI n))] → W p l e R s m ([.ref (P 0)] : List Value).toArray below meth c H locs (0) (0) (MQ below (hm_Ni B D (fun r M1 => r = nI (bz (ru_ok t)) ∧ ∃ z, mo_D B D P O M1 (va_up I 18 z) A L ∧ cz_F O M O M1 pm)) ([.ref (P 0)] : List Value).toArray s (0) (0) (hm_A B)) (F0 m 87 ls []) := by
      intro n9
      induction n9 with
      | zero => intro a n g Mu87 ha1 hn ha hg hd87 hF87 hm; exact absurd hm (Nat.not_lt_zero _)
      | succ n9 ih87 =>
        intro a n g Mu87 ha1 hn ha hg hd87 hF87 hm H locs ls hP hS hl
        obtain ⟨g19_0, g19_1, g19_3, g19_4, g19_5, g19_7, g19_8, g19_9, g19_10, g19_11, g19_14, g19_15, g19_16, g19_17, g19_19, g19_20, g19_21, -, -⟩ := id hd87
        have g19_0 : Mu87 (P 0) = some (.inr (6, [.int (I 0), .ref (P 1), .int (I 2), .ref (P 3), .ref (P 4), .ref (P 5), .int (I 6), .ref (P 7), .ref (P 8), .ref (P 9), .ref (P 10), .ref (P 11), .int (I 12), .int (I 13), .ref (P 14), .ref (P 15), .ref (P 16), .ref (P 17), .int (nI a), .ref (P 19), .ref (P 20), .ref (P 21)])) := g19_0
        have hla := tx_lt ti4 a
        refine lv_iload_n hx hb dd_MO_isHeaders_87 rfl (lv_at hl 1 rfl) ?_
        refine hn_if_eq (tgt := 228) hx hb (bz_b _) dd_MO_isHeaders_88 (by decide) (fun c20 => ?_) (fun c20 => ?_)
        · have hg0 := bz_f c20
          refine lv_iload_n hx hb dd_MO_isHeaders_228 rfl (lv_at hl 1 rfl) ?_
          exact hm_Ei (v := nI (bz g)) hx hb hr (bz_n _) hS hP (⟨by rw [hg, hg0]; rfl, nI a, ⟨g19_0, g19_1, g19_3, g19_4, g19_5, g19_7, g19_8, g19_9, g19_10, g19_11, g19_14, g19_15, g19_16, g19_17, g19_19, g19_20, g19_21, po, pb⟩, hF87⟩) hlocks (by omega) (by omega) dd_MO_isHeaders_229
        · have hg1 := bz_t c20
          have hat := ha hg1
          refine lv_aload_n hx hb dd_MO_isHeaders_91 rfl (lv_at hl 0 rfl) ?_
          refine hm_get (ci := 6) (C := rn_MO) (T := ft_MO) (N := 22) hx hb hts fi_MO hown hE.K hP g19_0 rfl 18 (by decide) (hts _ tw_1004) (fun _ h9 => h9) rfl dd_MO_isHeaders_92 ?_
          refine lv_aload_n hx hb dd_MO_isHeaders_95 rfl (lv_at hl 0 rfl) ?_
          refine hm_get (ci := 6) (C := rn_MO) (T := ft_MO) (N := 22) hx hb hts fi_MO hown hE.K hP g19_0 rfl 2 (by decide) (hts _ tw_988) (fun _ h9 => h9) rfl dd_MO_isHeaders_96 ?_
          refine W.eq (g2 := F0 m 99 ls [.int (nI t.length), .int (nI a)]) (by rw [ti1]) ?_
          refine hn_icmp_ge (tgt := 228) hx hb (by omega) (by omega) dd_MO_isHeaders_99 (by decide) (fun c21 => ?_) (fun c21 => ?_)
          · refine lv_iload_n hx hb dd_MO_isHeaders_228 rfl (lv_at hl 1 rfl) ?_
            exact hm_Ei (v := nI (bz g)) hx hb hr (bz_n _) hS hP (⟨by rw [hg, rs_ge (by omega), Bool.and_true], nI a, ⟨g19_0, g19_1, g19_3, g19_4, g19_5, g19_7, g19_8, g19_9, g19_10, g19_11, g19_14, g19_15, g19_16, g19_17, g19_19, g19_20, g19_21, po, pb⟩, hF87⟩) hlocks (by omega) (by omega) dd_MO_isHeaders_229
          · refine lv_aload_n hx hb dd_MO_isHeaders_102 rfl (lv_at hl 0 rfl) ?_
            refine hm_get (ci := 6) (C := rn_MO) (T := ft_MO) (N := 22) hx hb hts fi_MO hown hE.K hP g19_0 rfl 1 (by decide) (hts _ tw_987) (fun _ h9 => h9) rfl dd_MO_isHeaders_103 ?_
            refine lv_aload_n hx hb dd_MO_isHeaders_106 rfl (lv_at hl 0 rfl) ?_
            refine hm_get (ci := 6) (C := rn_MO) (T := ft_MO) (N := 22) hx hb hts fi_MO hown hE.K hP g19_0 rfl 18 (by decide) (hts _ tw_1004) (fun _ h9 => h9) rfl dd_MO_isHeaders_107 ?_
            refine hm_iald (j := a) hx hb hE.K hP 2 g19_1 rfl (vp_in_nI (by omega) (by omega)) (nI_clamp (by omega)) dd_MO_isHeaders_110 ?_
            refine W.eq (g2 := F0 m 111 ls [.int (nI (t.getD a 0))]) (by rw [ti2 a (by omega)]) ?_
            refine lv_bipush (v := nI 44) hx hb dd_MO_isHeaders_111 (by decide +kernel) ?_
            refine hn_icmp_ne (tgt := 125) hx hb (by omega) (by omega) dd_MO_isHeaders_113 (by decide) (fun c22 => ?_) (fun c22 => ?_)
            · have c44 := c22
              refine lv_iconst (v := nI 0) hx hb dd_MO_isHeaders_125 (by decide +kernel) ?_
              refine lv_istore_n (lv' := [(1, .int (nI 0)), (0, .ref (P 0)), (2, .int (nI n))]) hx hb dd_MO_isHeaders_126 rfl hl (by decide) rfl (fun ls hl => ?_)
              refine lv_aload_n hx hb dd_MO_isHeaders_127 rfl (lv_at hl 1 rfl) ?_
              refine lv_dup hx hb dd_MO_isHeaders_128 rfl ?_
              refine hm_get (ci := 6) (C := rn_MO) (T := ft_MO) (N := 22) hx hb hts fi_MO hown hE.K hP g19_0 rfl 18 (by decide) (hts _ tw_1004) (fun _ h9 => h9) rfl dd_MO_isHeaders_129 ?_
              refine lv_iconst (v := nI 1) hx hb dd_MO_isHeaders_132 (by decide +kernel) ?_
              refine hn_iadd hx hb dd_MO_isHeaders_133 ?_
              refine hm_put (ci := 6) (v := .int (nI (a + 1))) (ty := .int) (C := rn_MO) (T := ft_MO) (N := 22) hx hb hts fi_MO fy_MO fo_MO fn_MO hown hE.K hP hS (pb 0 (by decide)) g19_0 rfl 18 (by decide) (hts _ tw_1004) (fun _ h9 => h9) rfl (by decide +kernel) rfl rfl (Nat.le_of_ble_eq_true rfl) dd_MO_isHeaders_134 (fun H locs hP hS => ?_)
              have hP : hm_P D cl_W (hm_up Mu87 (P 0) (.inr (6, [.int (I 0), .ref (P 1), .int (I 2), .ref (P 3), .ref (P 4), .ref (P 5), .int (I 6), .ref (P 7), .ref (P 8), .ref (P 9), .ref (P 10), .ref (P 11), .int (I 12), .int (I 13), .ref (P 14), .ref (P 15), .ref (P 16), .ref (P 17), .int (nI (a + 1)), .ref (P 19), .ref (P 20), .ref (P 21)]))) H := hP
              obtain ⟨M23, eM23⟩ : ∃ z, z = hm_up Mu87 (P 0) (.inr (6, [.int (I 0), .ref (P 1), .int (I 2), .ref (P 3), .ref (P 4), .ref (P 5), .int (I 6), .ref (P 7), .ref (P 8), .ref (P 9), .ref (P 10), .ref (P 11), .int (I 12), .int (I 13), .ref (P 14), .ref (P 15), .ref (P 16), .ref (P 17), .int (nI (a + 1)), .ref (P 19), .ref (P 20), .ref (P 21)])) := ⟨_, rfl⟩
              rw [← eM23] at hP
              have f24 : M23 (P 1) = some (.inl (D.1 102, 48, .inl (A 1))) := by rw [eM23]; exact hm_up_o (hm_neO (po 1 (by decide)) (po 0 (by decide)) (by decide)) g19_1
              have f25 : M23 (P 3) = some (.inl (D.1 102, 16, .inl (A 3))) := by rw [eM23]; exact hm_up_o (hm_neO (po 3 (by decide)) (po 0 (by decide)) (by decide)) g19_3
              have f26 : M23 (P 4) = some (.inl (D.1 102, 16, .inl (A 4))) := by rw [eM23]; exact hm_up_o (hm_neO (po 4 (by decide)) (po 0 (by decide)) (by decide)) g19_4
              have f27 : M23 (P 5) = some (.inl (D.1 101, 16, .inl (A 5))) := by rw [eM23]; exact hm_up_o (hm_neO (po 5 (by decide)) (po 0 (by decide)) (by decide)) g19_5
              have f28 : M23 (P 7) = some (.inl (D.1 102, 120, .inl (A 7))) := by rw [eM23]; exact hm_up_o (hm_neO (po 7 (by decide)) (po 0 (by decide)) (by decide)) g19_7
              have f29 : M23 (P 8) = some (.inl (D.1 102, 120, .inl (A 8))) := by rw [eM23]; exact hm_up_o (hm_neO (po 8 (by decide)) (po 0 (by decide)) (by decide)) g19_8
              have f30 : M23 (P 9) = some (.inl (D.1 102, 120, .inl (A 9))) := by rw [eM23]; exact hm_up_o (hm_neO (po 9 (by decide)) (po 0 (by decide)) (by decide)) g19_9
              have f31 : M23 (P 10) = some (.inl (D.1 102, 5760, .inl (A 10))) := by rw [eM23]; exact hm_up_o (hm_neO (po 10 (by decide)) (po 0 (by decide)) (by decide)) g19_10
              have f32 : M23 (P 11) = some (.inl (D.1 102, 48, .inl (A 11))) := by rw [eM23]; exact hm_up_o (hm_neO (po 11 (by decide)) (po 0 (by decide)) (by decide)) g19_11
              have f33 : M23 (P 14) = some (.inl (D.1 103, 6, .inr (.inl (L 14)))) := by rw [eM23]; exact hm_up_o (hm_neO (po 14 (by decide)) (po 0 (by decide)) (by decide)) g19_14
              have f34 : M23 (P 15) = some (.inl (D.1 103, 6, .inr (.inl (L 15)))) := by rw [eM23]; exact hm_up_o (hm_neO (po 15 (by decide)) (po 0 (by decide)) (by decide)) g19_15
              have f35 : M23 (P 16) = some (.inl (D.1 101, 16, .inl (A 16))) := by rw [eM23]; exact hm_up_o (hm_neO (po 16 (by decide)) (po 0 (by decide)) (by decide)) g19_16
              have f36 : M23 (P 17) = some (.inl (D.1 101, 16, .inl (A 17))) := by rw [eM23]; exact hm_up_o (hm_neO (po 17 (by decide)) (po 0 (by decide)) (by decide)) g19_17
              have f37 : M23 (P 19) = some (.inl (D.1 101, 2601, .inl (A 19))) := by rw [eM23]; exact hm_up_o (hm_neO (po 19 (by decide)) (po 0 (by decide)) (by decide)) g19_19
              have f38 : M23 (P 20) = some (.inl (D.1 102, 52, .inl (A 20))) := by rw [eM23]; exact hm_up_o (hm_neO (po 20 (by decide)) (po 0 (by decide)) (by decide)) g19_20
              have f39 : M23 (P 21) = some (.inl (D.1 102, 52, .inl (A 21))) := by rw [eM23]; exact hm_up_o (hm_neO (po 21 (by decide)) (po 0 (by decide)) (by decide)) g19_21
              have f40 : M23 (P 0) = some (.inr (6, [.int (I 0), .ref (P 1), .int (I 2), .ref (P 3), .ref (P 4), .ref (P 5), .int (I 6), .ref (P 7), .ref (P 8), .ref (P 9), .ref (P 10), .ref (P 11), .int (I 12), .int (I 13), .ref (P 14), .ref (P 15), .ref (P 16), .ref (P 17), .int (nI (a + 1)), .ref (P 19), .ref (P 20), .ref (P 21)])) := by rw [eM23]; exact hm_up_s
              refine lv_iinc (v := nI (n + 1)) (lv' := [(2, .int (nI (n + 1))), (1, .int (nI 0)), (0, .ref (P 0))]) hx hb dd_MO_isHeaders_137 hl (k := 2) rfl (nI_1 n) (by decide) rfl (fun ls hl => ?_)
              refine lv_iload_n hx hb dd_MO_isHeaders_140 rfl (lv_at hl 1 rfl) ?_
              refine hn_if_eq (tgt := 163) hx hb (by omega) dd_MO_isHeaders_141 (by decide) (fun c41 => ?_) (fun c41 => absurd c41 (by omega))
              refine lv_iconst (v := nI 0) hx hb dd_MO_isHeaders_163 (by decide +kernel) ?_
              refine lv_istore_n (lv' := [(1, .int (nI 0)), (2, .int (nI (n + 1))), (0, .ref (P 0))]) hx hb dd_MO_isHeaders_164 rfl hl (by decide) rfl (fun ls hl => ?_)
              refine lv_iload_n hx hb dd_MO_isHeaders_165 rfl (lv_at hl 0 rfl) ?_
              refine hn_if_eq (tgt := 87) hx hb (by omega) dd_MO_isHeaders_166 (by decide) (fun c42 => ?_) (fun c42 => absurd c42 (by omega))
              have kk43 : hm_k Mu87 Mu87 [(P 0)] := hm_krf
              have kk44 : hm_k Mu87 M23 [(P 0)] := hm_ku kk43 (Or.inr (by simp)) eM23
              exact ih87 (a + 1) (n + 1) false M23 (by omega) (by omega) (fun h9 => by cases h9) (by rw [hg, hg1, Bool.true_and, rs_lt (by omega) c44] <;> rfl) (⟨f40, f24, f25, f26, f27, f28, f29, f30, f31, f32, f33, f34, f35, f36, f37, f38, f39, po, pb⟩) ((hF87).trans (cz_F.k0 kk44 (hm_a1 ⟨by rw [po 0 (by decide)]; unfold pm; omega, _, f40⟩))) (by omega) _ _ _ hP hS (lv_sub hl [2, 0, 1] rfl)
            · have c44 := c22
              refine lv_iload_n hx hb dd_MO_isHeaders_116 rfl (lv_at hl 2 rfl) ?_
              refine lv_iconst (v := nI 4) hx hb dd_MO_isHeaders_117 (by decide +kernel) ?_
              refine hn_icmp_ge (tgt := 125) hx hb (by omega) (by omega) dd_MO_isHeaders_118 (by decide) (fun c45 => ?_) (fun c45 => ?_)
              · refine lv_iconst (v := nI 0) hx hb dd_MO_isHeaders_125 (by decide +kernel) ?_
                refine lv_istore_n (lv' := [(1, .int (nI 0)), (0, .ref (P 0)), (2, .int (nI n))]) hx hb dd_MO_isHeaders_126 rfl hl (by decide) rfl (fun ls hl => ?_)
                refine lv_aload_n hx hb dd_MO_isHeaders_127 rfl (lv_at hl 1 rfl) ?_
                refine lv_dup hx hb dd_MO_isHeaders_128 rfl ?_
                refine hm_get (ci := 6) (C := rn_MO) (T := ft_MO) (N := 22) hx hb hts fi_MO hown hE.K hP g19_0 rfl 18 (by decide) (hts _ tw_1004) (fun _ h9 => h9) rfl dd_MO_isHeaders_129 ?_
                refine lv_iconst (v := nI 1) hx hb dd_MO_isHeaders_132 (by decide +kernel) ?_
                refine hn_iadd hx hb dd_MO_isHeaders_133 ?_
                refine hm_put (ci := 6) (v := .int (nI (a + 1))) (ty := .int) (C := rn_MO) (T := ft_MO) (N := 22) hx hb hts fi_MO fy_MO fo_MO fn_MO hown hE.K hP hS (pb 0 (by decide)) g19_0 rfl 18 (by decide) (hts _ tw_1004) (fun _ h9 => h9) rfl (by decide +kernel) rfl rfl (Nat.le_of_ble_eq_true rfl) dd_MO_isHeaders_134 (fun H locs hP hS => ?_)
                have hP : hm_P D cl_W (hm_up Mu87 (P 0) (.inr (6, [.int (I 0), .ref (P 1), .int (I 2), .ref (P 3), .ref (P 4), .ref (P 5), .int (I 6), .ref (P 7), .ref (P 8), .ref (P 9), .ref (P 10), .ref (P 11), .int (I 12), .int (I 13), .ref (P 14), .ref (P 15), .ref (P 16), .ref (P 17), .int (nI (a + 1)), .ref (P 19), .ref (P 20), .ref (P 21)]))) H := hP
                obtain ⟨M46, eM46⟩ : ∃ z, z = hm_up Mu87 (P 0) (.inr (6, [.int (I 0), .ref (P 1), .int (I 2), .ref (P 3), .ref (P 4), .ref (P 5), .int (I 6), .ref (P 7), .ref (P 8), .ref (P 9), .ref (P 10), .ref (P 11), .int (I 12), .int (I 13), .ref (P 14), .ref (P 15), .ref (P 16), .ref (P 17), .int (nI (a + 1)), .ref (P 19), .ref (P 20), .ref (P 21)])) := ⟨_, rfl⟩
                rw [← eM46] at hP
                have f47 : M46 (P 1) = some (.inl (D.1 102, 48, .inl (A 1))) := by rw [eM46]; exact hm_up_o (hm_neO (po 1 (by decide)) (po 0 (by decide)) (by decide)) g19_1
                have f48 : M46 (P 3) = some (.inl (D.1 102, 16, .inl (A 3))) := by rw [eM46]; exact hm_up_o (hm_neO (po 3 (by decide)) (po 0 (by decide)) (by decide)) g19_3
                have f49 : M46 (P 4) = some (.inl (D.1 102, 16, .inl (A 4))) := by rw [eM46]; exact hm_up_o (hm_neO (po 4 (by decide)) (po 0 (by decide)) (by decide)) g19_4
                have f50 : M46 (P 5) = some (.inl (D.1 101, 16, .inl (A 5))) := by rw [eM46]; exact hm_up_o (hm_neO (po 5 (by decide)) (po 0 (by decide)) (by decide)) g19_5
                have f51 : M46 (P 7) = some (.inl (D.1 102, 120, .inl (A 7))) := by rw [eM46]; exact hm_up_o (hm_neO (po 7 (by decide)) (po 0 (by decide)) (by decide)) g19_7
                have f52 : M46 (P 8) = some (.inl (D.1 102, 120, .inl (A 8))) := by rw [eM46]; exact hm_up_o (hm_neO (po 8 (by decide)) (po 0 (by decide)) (by decide)) g19_8
                have f53 : M46 (P 9) = some (.inl (D.1 102, 120, .inl (A 9))) := by rw [eM46]; exact hm_up_o (hm_neO (po 9 (by decide)) (po 0 (by decide)) (by decide)) g19_9
                have f54 : M46 (P 10) = some (.inl (D.1 102, 5760, .inl (A 10))) := by rw [eM46]; exact hm_up_o (hm_neO (po 10 (by decide)) (po 0 (by decide)) (by decide)) g19_10
                have f55 : M46 (P 11) = some (.inl (D.1 102, 48, .inl (A 11))) := by rw [eM46]; exact hm_up_o (hm_neO (po 11 (by decide)) (po 0 (by decide)) (by decide)) g19_11
                have f56 : M46 (P 14) = some (.inl (D.1 103, 6, .inr (.inl (L 14)))) := by rw [eM46]; exact hm_up_o (hm_neO (po 14 (by decide)) (po 0 (by decide)) (by decide)) g19_14
                have f57 : M46 (P 15) = some (.inl (D.1 103, 6, .inr (.inl (L 15)))) := by rw [eM46]; exact hm_up_o (hm_neO (po 15 (by decide)) (po 0 (by decide)) (by decide)) g19_15
                have f58 : M46 (P 16) = some (.inl (D.1 101, 16, .inl (A 16))) := by rw [eM46]; exact hm_up_o (hm_neO (po 16 (by decide)) (po 0 (by decide)) (by decide)) g19_16
                have f59 : M46 (P 17) = some (.inl (D.1 101, 16, .inl (A 17))) := by rw [eM46]; exact hm_up_o (hm_neO (po 17 (by decide)) (po 0 (by decide)) (by decide)) g19_17
                have f60 : M46 (P 19) = some (.inl (D.1 101, 2601, .inl (A 19))) := by rw [eM46]; exact hm_up_o (hm_neO (po 19 (by decide)) (po 0 (by decide)) (by decide)) g19_19
                have f61 : M46 (P 20) = some (.inl (D.1 102, 52, .inl (A 20))) := by rw [eM46]; exact hm_up_o (hm_neO (po 20 (by decide)) (po 0 (by decide)) (by decide)) g19_20
                have f62 : M46 (P 21) = some (.inl (D.1 102, 52, .inl (A 21))) := by rw [eM46]; exact hm_up_o (hm_neO (po 21 (by decide)) (po 0 (by decide)) (by decide)) g19_21
                have f63 : M46 (P 0) = some (.inr (6, [.int (I 0), .ref (P 1), .int (I 2), .ref (P 3), .ref (P 4), .ref (P 5), .int (I 6), .ref (P 7), .ref (P 8), .ref (P 9), .ref (P 10), .ref (P 11), .int (I 12), .int (I 13), .ref (P 14), .ref (P 15), .ref (P 16), .ref (P 17), .int (nI (a + 1)), .ref (P 19), .ref (P 20), .ref (P 21)])) := by rw [eM46]; exact hm_up_s
                refine lv_iinc (v := nI (n + 1)) (lv' := [(2, .int (nI (n + 1))), (1, .int (nI 0)), (0, .ref (P 0))]) hx hb dd_MO_isHeaders_137 hl (k := 2) rfl (nI_1 n) (by decide) rfl (fun ls hl => ?_)
                refine lv_iload_n hx hb dd_MO_isHeaders_140 rfl (lv_at hl 1 rfl) ?_
                refine hn_if_eq (tgt := 163) hx hb (by omega) dd_MO_isHeaders_141 (by decide) (fun c64 => ?_) (fun c64 => absurd c64 (by omega))
                refine lv_iconst (v := nI 0) hx hb dd_MO_isHeaders_163 (by decide +kernel) ?_
                refine lv_istore_n (lv' := [(1, .int (nI 0)), (2, .int (nI (n + 1))), (0, .ref (P 0))]) hx hb dd_MO_isHeaders_164 rfl hl (by decide) rfl (fun ls hl => ?_)
                refine lv_iload_n hx hb dd_MO_isHeaders_165 rfl (lv_at hl 0 rfl) ?_
                refine hn_if_eq (tgt := 87) hx hb (by omega) dd_MO_isHeaders_166 (by decide) (fun c65 => ?_) (fun c65 => absurd c65 (by omega))
                have kk66 : hm_k Mu87 Mu87 [(P 0)] := hm_krf
                have kk67 : hm_k Mu87 M46 [(P 0)] := hm_ku kk66 (Or.inr (by simp)) eM46
                exact ih87 (a + 1) (n + 1) false M46 (by omega) (by omega) (fun h9 => by cases h9) (by rw [hg, hg1, Bool.true_and, rs_4 (by omega) c44 (by omega)] <;> rfl) (⟨f63, f47, f48, f49, f50, f51, f52, f53, f54, f55, f56, f57, f58, f59, f60, f61, f62, po, pb⟩) ((hF87).trans (cz_F.k0 kk67 (hm_a1 ⟨by rw [po 0 (by decide)]; unfold pm; omega, _, f63⟩))) (by omega) _ _ _ hP hS (lv_sub hl [2, 0, 1] rfl)
              · refine lv_iconst (v := nI 1) hx hb dd_MO_isHeaders_121 (by decide +kernel) ?_
                refine lv_goto (tgt := 126) hx hb dd_MO_isHeaders_122 (by decide) ?_
                refine lv_istore_n (lv' := [(1, .int (nI 1)), (0, .ref (P 0)), (2, .int (nI n))]) hx hb dd_MO_isHeaders_126 rfl hl (by decide) rfl (fun ls hl => ?_)
                refine lv_aload_n hx hb dd_MO_isHeaders_127 rfl (lv_at hl 1 rfl) ?_
                refine lv_dup hx hb dd_MO_isHeaders_128 rfl ?_
                refine hm_get (ci := 6) (C := rn_MO) (T := ft_MO) (N := 22) hx hb hts fi_MO hown hE.K hP g19_0 rfl 18 (by decide) (hts _ tw_1004) (fun _ h9 => h9) rfl dd_MO_isHeaders_129 ?_
                refine lv_iconst (v := nI 1) hx hb dd_MO_isHeaders_132 (by decide +kernel) ?_
                refine hn_iadd hx hb dd_MO_isHeaders_133 ?_
                refine hm_put (ci := 6) (v := .int (nI (a + 1))) (ty := .int) (C := rn_MO) (T := ft_MO) (N := 22) hx hb hts fi_MO fy_MO fo_MO fn_MO hown hE.K hP hS (pb 0 (by decide)) g19_0 rfl 18 (by decide) (hts _ tw_1004) (fun _ h9 => h9) rfl (by decide +kernel) rfl rfl (Nat.le_of_ble_eq_true rfl) dd_MO_isHeaders_134 (fun H locs hP hS => ?_)
                have hP : hm_P D cl_W (hm_up Mu87 (P 0) (.inr (6, [.int (I 0), .ref (P 1), .int (I 2), .ref (P 3), .ref (P 4), .ref (P 5), .int (I 6), .ref (P 7), .ref (P 8), .ref (P 9), .ref (P 10), .ref (P 11), .int (I 12), .int (I 13), .ref (P 14), .ref (P 15), .ref (P 16), .ref (P 17), .int (nI (a + 1)), .ref (P 19), .ref (P 20), .ref (P 21)]))) H := hP
                obtain ⟨M68, eM68⟩ : ∃ z, z = hm_up Mu87 (P 0) (.inr (6, [.int (I 0), .ref (P 1), .int (I 2), .ref (P 3), .ref (P 4), .ref (P 5), .int (I 6), .ref (P 7), .ref (P 8), .ref (P 9), .ref (P 10), .ref (P 11), .int (I 12), .int (I 13), .ref (P 14), .ref (P 15), .ref (P 16), .ref (P 17), .int (nI (a + 1)), .ref (P 19), .ref (P 20), .ref (P 21)])) := ⟨_, rfl⟩
                rw [← eM68] at hP
                have f69 : M68 (P 1) = some (.inl (D.1 102, 48, .inl (A 1))) := by rw [eM68]; exact hm_up_o (hm_neO (po 1 (by decide)) (po 0 (by decide)) (by decide)) g19_1
                have f70 : M68 (P 3) = some (.inl (D.1 102, 16, .inl (A 3))) := by rw [eM68]; exact hm_up_o (hm_neO (po 3 (by decide)) (po 0 (by decide)) (by decide)) g19_3
                have f71 : M68 (P 4) = some (.inl (D.1 102, 16, .inl (A 4))) := by rw [eM68]; exact hm_up_o (hm_neO (po 4 (by decide)) (po 0 (by decide)) (by decide)) g19_4
                have f72 : M68 (P 5) = some (.inl (D.1 101, 16, .inl (A 5))) := by rw [eM68]; exact hm_up_o (hm_neO (po 5 (by decide)) (po 0 (by decide)) (by decide)) g19_5
                have f73 : M68 (P 7) = some (.inl (D.1 102, 120, .inl (A 7))) := by rw [eM68]; exact hm_up_o (hm_neO (po 7 (by decide)) (po 0 (by decide)) (by decide)) g19_7
                have f74 : M68 (P 8) = some (.inl (D.1 102, 120, .inl (A 8))) := by rw [eM68]; exact hm_up_o (hm_neO (po 8 (by decide)) (po 0 (by decide)) (by decide)) g19_8
                have f75 : M68 (P 9) = some (.inl (D.1 102, 120, .inl (A 9))) := by rw [eM68]; exact hm_up_o (hm_neO (po 9 (by decide)) (po 0 (by decide)) (by decide)) g19_9
                have f76 : M68 (P 10) = some (.inl (D.1 102, 5760, .inl (A 10))) := by rw [eM68]; exact hm_up_o (hm_neO (po 10 (by decide)) (po 0 (by decide)) (by decide)) g19_10
                have f77 : M68 (P 11) = some (.inl (D.1 102, 48, .inl (A 11))) := by rw [eM68]; exact hm_up_o (hm_neO (po 11 (by decide)) (po 0 (by decide)) (by decide)) g19_11
                have f78 : M68 (P 14) = some (.inl (D.1 103, 6, .inr (.inl (L 14)))) := by rw [eM68]; exact hm_up_o (hm_neO (po 14 (by decide)) (po 0 (by decide)) (by decide)) g19_14
                have f79 : M68 (P 15) = some (.inl (D.1 103, 6, .inr (.inl (L 15)))) := by rw [eM68]; exact hm_up_o (hm_neO (po 15 (by decide)) (po 0 (by decide)) (by decide)) g19_15
                have f80 : M68 (P 16) = some (.inl (D.1 101, 16, .inl (A 16))) := by rw [eM68]; exact hm_up_o (hm_neO (po 16 (by decide)) (po 0 (by decide)) (by decide)) g19_16
                have f81 : M68 (P 17) = some (.inl (D.1 101, 16, .inl (A 17))) := by rw [eM68]; exact hm_up_o (hm_neO (po 17 (by decide)) (po 0 (by decide)) (by decide)) g19_17
                have f82 : M68 (P 19) = some (.inl (D.1 101, 2601, .inl (A 19))) := by rw [eM68]; exact hm_up_o (hm_neO (po 19 (by decide)) (po 0 (by decide)) (by decide)) g19_19
                have f83 : M68 (P 20) = some (.inl (D.1 102, 52, .inl (A 20))) := by rw [eM68]; exact hm_up_o (hm_neO (po 20 (by decide)) (po 0 (by decide)) (by decide)) g19_20
                have f84 : M68 (P 21) = some (.inl (D.1 102, 52, .inl (A 21))) := by rw [eM68]; exact hm_up_o (hm_neO (po 21 (by decide)) (po 0 (by decide)) (by decide)) g19_21
                have f85 : M68 (P 0) = some (.inr (6, [.int (I 0), .ref (P 1), .int (I 2), .ref (P 3), .ref (P 4), .ref (P 5), .int (I 6), .ref (P 7), .ref (P 8), .ref (P 9), .ref (P 10), .ref (P 11), .int (I 12), .int (I 13), .ref (P 14), .ref (P 15), .ref (P 16), .ref (P 17), .int (nI (a + 1)), .ref (P 19), .ref (P 20), .ref (P 21)])) := by rw [eM68]; exact hm_up_s
                refine lv_iinc (v := nI (n + 1)) (lv' := [(2, .int (nI (n + 1))), (1, .int (nI 1)), (0, .ref (P 0))]) hx hb dd_MO_isHeaders_137 hl (k := 2) rfl (nI_1 n) (by decide) rfl (fun ls hl => ?_)
                refine lv_iload_n hx hb dd_MO_isHeaders_140 rfl (lv_at hl 1 rfl) ?_
                refine hn_if_eq (tgt := 163) hx hb (by omega) dd_MO_isHeaders_141 (by decide) (fun c86 => absurd c86 (by omega)) (fun c86 => ?_)
                refine lv_aload_n hx hb dd_MO_isHeaders_144 rfl (lv_at hl 2 rfl) ?_
                refine lv_aload_n hx hb dd_MO_isHeaders_145 rfl (lv_at hl 2 rfl) ?_
                refine hm_get (ci := 6) (C := rn_MO) (T := ft_MO) (N := 22) hx hb hts fi_MO hown hE.K hP f85 rfl 2 (by decide) (hts _ tw_988) (fun _ h9 => h9) rfl dd_MO_isHeaders_146 ?_
                refine W.eq (g2 := F0 m 149 ls [.int (nI t.length), .ref (P 0)]) (by rw [ti1]) ?_
                have kk88 : hm_k Mu87 Mu87 [(P 0)] := hm_krf
                have kk89 : hm_k Mu87 M68 [(P 0)] := hm_ku kk88 (Or.inr (by simp)) eM68
                have hF90 : cz_F O M O M68 pm := (hF87).trans (cz_F.k0 kk89 (hm_a1 ⟨by rw [po 0 (by decide)]; unfold pm; omega, _, f85⟩))
                have hd87 : mo_D B D P O M68 (va_up I 18 (nI (a + 1))) A L := ⟨f85, f69, f70, f71, f72, f73, f74, f75, f76, f77, f78, f79, f80, f81, f82, f83, f84, po, pb⟩
                refine hm_cl hS (hm_rV 1 (As := [.int (nI t.length)]) (rest := []) ⟨hx, hb, hml, hown, hts⟩ hE hS hP (kc_MO_readName l B D G M68 P O (va_up I 18 (nI (a + 1))) A L hd87 t hT (a + 1) (by omega) rfl) rfl f85 tw_1118 tw_1115 tw_1117 tw_25 tw_46 (by decide +kernel) rfl rfl ⟨by show 1 + 1 ≤ R.frames; omega, by show 8 + (5 + 11) + 20 ≤ R.locals; omega⟩ rfl hl.1 rfl (Nat.le_of_ble_eq_true rfl) dd_MO_isHeaders_149 ⟨by omega, by omega⟩) (fun r91 M92 H locs hw93 hP hS => ?_)
                refine W.widen (k := 0) (n := 0) (by omega) (by omega) ?_
                obtain ⟨er91, hnr91, hvr91, hd94, hF95⟩ := hw93
                have hF95 := hF90.trans hF95
                obtain ⟨g96_0, g96_1, g96_3, g96_4, g96_5, g96_7, g96_8, g96_9, g96_10, g96_11, g96_14, g96_15, g96_16, g96_17, g96_19, g96_20, g96_21, -, -⟩ := id hd94
                have g96_0 : M92 (P 0) = some (.inr (6, [.int (I 0), .ref (P 1), .int (I 2), .ref (P 3), .ref (P 4), .ref (P 5), .int (I 6), .ref (P 7), .ref (P 8), .ref (P 9), .ref (P 10), .ref (P 11), .int (I 12), .int (I 13), .ref (P 14), .ref (P 15), .ref (P 16), .ref (P 17), .int (nI er91), .ref (P 19), .ref (P 20), .ref (P 21)])) := g96_0
                have hb1r91 := hnr91.1
                have hb2r91 := hnr91.2.1
                have hb3r91 := tx_lt ti4 er91
                refine lv_ldc2 (v := -1) hx hb hown (hts _ tw_1122) dd_MO_isHeaders_152 ?_
                refine W.lcmp hx hb dd_MO_isHeaders_155 ?_
                refine hi_if_eq (tgt := 163) hx hb dd_MO_isHeaders_156 (by decide) (fun c97 => ?_) (fun c97 => ?_)
                · have hnm : ¬ (1 ≤ er91 - (a + 1) ∧ er91 - (a + 1) < 7) := fun h9 => by
                    have h8 := lc_eq c97
                    rw [hvr91, if_pos h9] at h8
                    exact cd_ne (fun c hc => (rn_r hnr91 (fun _ => sm_r) c hc).2) (by rw [rn_len hnr91]; omega) h8
                  refine lv_iconst (v := nI 0) hx hb dd_MO_isHeaders_163 (by decide +kernel) ?_
                  refine lv_istore_n (lv' := [(1, .int (nI 0)), (2, .int (nI (n + 1))), (0, .ref (P 0))]) hx hb dd_MO_isHeaders_164 rfl hl (by decide) rfl (fun ls hl => ?_)
                  refine lv_iload_n hx hb dd_MO_isHeaders_165 rfl (lv_at hl 0 rfl) ?_
                  refine hn_if_eq (tgt := 87) hx hb (by omega) dd_MO_isHeaders_166 (by decide) (fun c98 => ?_) (fun c98 => absurd c98 (by omega))
                  exact ih87 er91 (n + 1) false M92 (by omega) (by omega) (fun h9 => by cases h9) (by rw [hg, hg1, Bool.true_and, rs_0 (by omega) c44 hnr91 hnm] <;> rfl) (⟨g96_0, g96_1, g96_3, g96_4, g96_5, g96_7, g96_8, g96_9, g96_10, g96_11, g96_14, g96_15, g96_16, g96_17, g96_19, g96_20, g96_21, po, pb⟩) (hF95) (by omega) _ _ _ hP hS (lv_sub hl [2, 0, 1] rfl)
                · have hnm : 1 ≤ er91 - (a + 1) ∧ er91 - (a + 1) < 7 := by
                    by_cases h9 : 1 ≤ er91 - (a + 1) ∧ er91 - (a + 1) < 7
                    · exact h9
                    · exact absurd (by rw [hvr91, if_neg h9]) (lc_ne c97)
                  refine lv_iconst (v := nI 1) hx hb dd_MO_isHeaders_159 (by decide +kernel) ?_
                  refine lv_goto (tgt := 164) hx hb dd_MO_isHeaders_160 (by decide) ?_
                  refine lv_istore_n (lv' := [(1, .int (nI 1)), (2, .int (nI (n + 1))), (0, .ref (P 0))]) hx hb dd_MO_isHeaders_164 rfl hl (by decide) rfl (fun ls hl => ?_)
                  refine lv_iload_n hx hb dd_MO_isHeaders_165 rfl (lv_at hl 0 rfl) ?_
                  refine hn_if_eq (tgt := 87) hx hb (by omega) dd_MO_isHeaders_166 (by decide) (fun c99 => absurd c99 (by omega)) (fun c99 => ?_)
                  refine lv_aload_n hx hb dd_MO_isHeaders_169 rfl (lv_at hl 2 rfl) ?_
                  refine hm_get (ci := 6) (C := rn_MO) (T := ft_MO) (N := 22) hx hb hts fi_MO hown hE.K hP g96_0 rfl 18 (by decide) (hts _ tw_1004) (fun _ h9 => h9) rfl dd_MO_isHeaders_170 ?_
                  refine lv_aload_n hx hb dd_MO_isHeaders_173 rfl (lv_at hl 2 rfl) ?_
                  refine hm_get (ci := 6) (C := rn_MO) (T := ft_MO) (N := 22) hx hb hts fi_MO hown hE.K hP g96_0 rfl 2 (by decide) (hts _ tw_988) (fun _ h9 => h9) rfl dd_MO_isHeaders_174 ?_
                  refine W.eq (g2 := F0 m 177 ls [.int (nI t.length), .int (nI er91)]) (by rw [ti1]) ?_
                  refine hn_icmp_ge (tgt := 87) hx hb (by omega) (by omega) dd_MO_isHeaders_177 (by decide) (fun c100 => ?_) (fun c100 => ?_)
                  · exact ih87 er91 (n + 1) true M92 (by omega) (by omega) (fun _ => by omega) (by rw [hg, hg1, Bool.true_and, rs_1 (by omega) c44 hnr91 (fun h9 => absurd h9.1 (by omega)), decide_eq_true (show n < 4 by omega), decide_eq_true hnm] <;> rfl) (⟨g96_0, g96_1, g96_3, g96_4, g96_5, g96_7, g96_8, g96_9, g96_10, g96_11, g96_14, g96_15, g96_16, g96_17, g96_19, g96_20, g96_21, po, pb⟩) (hF95) (by omega) _ _ _ hP hS (lv_sub hl [2, 0, 1] rfl)
                  · refine lv_aload_n hx hb dd_MO_isHeaders_180 rfl (lv_at hl 2 rfl) ?_
                    refine hm_get (ci := 6) (C := rn_MO) (T := ft_MO) (N := 22) hx hb hts fi_MO hown hE.K hP g96_0 rfl 1 (by decide) (hts _ tw_987) (fun _ h9 => h9) rfl dd_MO_isHeaders_181 ?_
                    refine lv_aload_n hx hb dd_MO_isHeaders_184 rfl (lv_at hl 2 rfl) ?_
                    refine hm_get (ci := 6) (C := rn_MO) (T := ft_MO) (N := 22) hx hb hts fi_MO hown hE.K hP g96_0 rfl 18 (by decide) (hts _ tw_1004) (fun _ h9 => h9) rfl dd_MO_isHeaders_185 ?_
                    refine hm_iald (j := er91) hx hb hE.K hP 2 g96_1 rfl (vp_in_nI (by omega) (by omega)) (nI_clamp (by omega)) dd_MO_isHeaders_188 ?_
                    refine W.eq (g2 := F0 m 189 ls [.int (nI (t.getD er91 0))]) (by rw [ti2 er91 (by omega)]) ?_
                    refine lv_bipush (v := nI 61) hx hb dd_MO_isHeaders_189 (by decide +kernel) ?_
                    refine hn_icmp_ne (tgt := 87) hx hb (by omega) (by omega) dd_MO_isHeaders_191 (by decide) (fun c101 => ?_) (fun c101 => ?_)
                    · have c61 := c101
                      exact ih87 er91 (n + 1) true M92 (by omega) (by omega) (fun _ => by omega) (by rw [hg, hg1, Bool.true_and, rs_1 (by omega) c44 hnr91 (fun h9 => c61 h9.2), decide_eq_true (show n < 4 by omega), decide_eq_true hnm] <;> rfl) (⟨g96_0, g96_1, g96_3, g96_4, g96_5, g96_7, g96_8, g96_9, g96_10, g96_11, g96_14, g96_15, g96_16, g96_17, g96_19, g96_20, g96_21, po, pb⟩) (hF95) (by omega) _ _ _ hP hS (lv_sub hl [2, 0, 1] rfl)
                    · have c61 := c101
                      refine lv_aload_n hx hb dd_MO_isHeaders_194 rfl (lv_at hl 2 rfl) ?_
                      refine lv_dup hx hb dd_MO_isHeaders_195 rfl ?_
                      refine hm_get (ci := 6) (C := rn_MO) (T := ft_MO) (N := 22) hx hb hts fi_MO hown hE.K hP g96_0 rfl 18 (by decide) (hts _ tw_1004) (fun _ h9 => h9) rfl dd_MO_isHeaders_196 ?_
                      refine lv_iconst (v := nI 1) hx hb dd_MO_isHeaders_199 (by decide +kernel) ?_
                      refine hn_iadd hx hb dd_MO_isHeaders_200 ?_
                      refine hm_put (ci := 6) (v := .int (nI (er91 + 1))) (ty := .int) (C := rn_MO) (T := ft_MO) (N := 22) hx hb hts fi_MO fy_MO fo_MO fn_MO hown hE.K hP hS (pb 0 (by decide)) g96_0 rfl 18 (by decide) (hts _ tw_1004) (fun _ h9 => h9) rfl (by decide +kernel) rfl rfl (Nat.le_of_ble_eq_true rfl) dd_MO_isHeaders_201 (fun H locs hP hS => ?_)
                      have hP : hm_P D cl_W (hm_up M92 (P 0) (.inr (6, [.int (I 0), .ref (P 1), .int (I 2), .ref (P 3), .ref (P 4), .ref (P 5), .int (I 6), .ref (P 7), .ref (P 8), .ref (P 9), .ref (P 10), .ref (P 11), .int (I 12), .int (I 13), .ref (P 14), .ref (P 15), .ref (P 16), .ref (P 17), .int (nI (er91 + 1)), .ref (P 19), .ref (P 20), .ref (P 21)]))) H := hP
                      obtain ⟨M102, eM102⟩ : ∃ z, z = hm_up M92 (P 0) (.inr (6, [.int (I 0), .ref (P 1), .int (I 2), .ref (P 3), .ref (P 4), .ref (P 5), .int (I 6), .ref (P 7), .ref (P 8), .ref (P 9), .ref (P 10), .ref (P 11), .int (I 12), .int (I 13), .ref (P 14), .ref (P 15), .ref (P 16), .ref (P 17), .int (nI (er91 + 1)), .ref (P 19), .ref (P 20), .ref (P 21)])) := ⟨_, rfl⟩
                      rw [← eM102] at hP
                      have f103 : M102 (P 1) = some (.inl (D.1 102, 48, .inl (A 1))) := by rw [eM102]; exact hm_up_o (hm_neO (po 1 (by decide)) (po 0 (by decide)) (by decide)) g96_1
                      have f104 : M102 (P 3) = some (.inl (D.1 102, 16, .inl (A 3))) := by rw [eM102]; exact hm_up_o (hm_neO (po 3 (by decide)) (po 0 (by decide)) (by decide)) g96_3
                      have f105 : M102 (P 4) = some (.inl (D.1 102, 16, .inl (A 4))) := by rw [eM102]; exact hm_up_o (hm_neO (po 4 (by decide)) (po 0 (by decide)) (by decide)) g96_4
                      have f106 : M102 (P 5) = some (.inl (D.1 101, 16, .inl (A 5))) := by rw [eM102]; exact hm_up_o (hm_neO (po 5 (by decide)) (po 0 (by decide)) (by decide)) g96_5
                      have f107 : M102 (P 7) = some (.inl (D.1 102, 120, .inl (A 7))) := by rw [eM102]; exact hm_up_o (hm_neO (po 7 (by decide)) (po 0 (by decide)) (by decide)) g96_7
                      have f108 : M102 (P 8) = some (.inl (D.1 102, 120, .inl (A 8))) := by rw [eM102]; exact hm_up_o (hm_neO (po 8 (by decide)) (po 0 (by decide)) (by decide)) g96_8
                      have f109 : M102 (P 9) = some (.inl (D.1 102, 120, .inl (A 9))) := by rw [eM102]; exact hm_up_o (hm_neO (po 9 (by decide)) (po 0 (by decide)) (by decide)) g96_9
                      have f110 : M102 (P 10) = some (.inl (D.1 102, 5760, .inl (A 10))) := by rw [eM102]; exact hm_up_o (hm_neO (po 10 (by decide)) (po 0 (by decide)) (by decide)) g96_10
                      have f111 : M102 (P 11) = some (.inl (D.1 102, 48, .inl (A 11))) := by rw [eM102]; exact hm_up_o (hm_neO (po 11 (by decide)) (po 0 (by decide)) (by decide)) g96_11
                      have f112 : M102 (P 14) = some (.inl (D.1 103, 6, .inr (.inl (L 14)))) := by rw [eM102]; exact hm_up_o (hm_neO (po 14 (by decide)) (po 0 (by decide)) (by decide)) g96_14
                      have f113 : M102 (P 15) = some (.inl (D.1 103, 6, .inr (.inl (L 15)))) := by rw [eM102]; exact hm_up_o (hm_neO (po 15 (by decide)) (po 0 (by decide)) (by decide)) g96_15
                      have f114 : M102 (P 16) = some (.inl (D.1 101, 16, .inl (A 16))) := by rw [eM102]; exact hm_up_o (hm_neO (po 16 (by decide)) (po 0 (by decide)) (by decide)) g96_16
                      have f115 : M102 (P 17) = some (.inl (D.1 101, 16, .inl (A 17))) := by rw [eM102]; exact hm_up_o (hm_neO (po 17 (by decide)) (po 0 (by decide)) (by decide)) g96_17
                      have f116 : M102 (P 19) = some (.inl (D.1 101, 2601, .inl (A 19))) := by rw [eM102]; exact hm_up_o (hm_neO (po 19 (by decide)) (po 0 (by decide)) (by decide)) g96_19
                      have f117 : M102 (P 20) = some (.inl (D.1 102, 52, .inl (A 20))) := by rw [eM102]; exact hm_up_o (hm_neO (po 20 (by decide)) (po 0 (by decide)) (by decide)) g96_20
                      have f118 : M102 (P 21) = some (.inl (D.1 102, 52, .inl (A 21))) := by rw [eM102]; exact hm_up_o (hm_neO (po 21 (by decide)) (po 0 (by decide)) (by decide)) g96_21
                      have f119 : M102 (P 0) = some (.inr (6, [.int (I 0), .ref (P 1), .int (I 2), .ref (P 3), .ref (P 4), .ref (P 5), .int (I 6), .ref (P 7), .ref (P 8), .ref (P 9), .ref (P 10), .ref (P 11), .int (I 12), .int (I 13), .ref (P 14), .ref (P 15), .ref (P 16), .ref (P 17), .int (nI (er91 + 1)), .ref (P 19), .ref (P 20), .ref (P 21)])) := by rw [eM102]; exact hm_up_s
                      refine lv_aload_n hx hb dd_MO_isHeaders_204 rfl (lv_at hl 2 rfl) ?_
                      refine lv_aload_n hx hb dd_MO_isHeaders_205 rfl (lv_at hl 2 rfl) ?_
                      refine hm_get (ci := 6) (C := rn_MO) (T := ft_MO) (N := 22) hx hb hts fi_MO hown hE.K hP f119 rfl 2 (by decide) (hts _ tw_988) (fun _ h9 => h9) rfl dd_MO_isHeaders_206 ?_
                      refine W.eq (g2 := F0 m 209 ls [.int (nI t.length), .ref (P 0)]) (by rw [ti1]) ?_
                      have kk121 : hm_k M92 M92 [(P 0)] := hm_krf
                      have kk122 : hm_k M92 M102 [(P 0)] := hm_ku kk121 (Or.inr (by simp)) eM102
                      have hF123 : cz_F O M O M102 pm := (hF95).trans (cz_F.k0 kk122 (hm_a1 ⟨by rw [po 0 (by decide)]; unfold pm; omega, _, f119⟩))
                      have hd120 : mo_D B D P O M102 (va_up I 18 (nI (er91 + 1))) A L := ⟨f119, f103, f104, f105, f106, f107, f108, f109, f110, f111, f112, f113, f114, f115, f116, f117, f118, po, pb⟩
                      refine hm_cl hS (hm_rV 1 (As := [.int (nI t.length)]) (rest := []) ⟨hx, hb, hml, hown, hts⟩ hE hS hP (kc_MO_readValue l B D G M102 P O (va_up I 18 (nI (er91 + 1))) A L hd120 t hT (er91 + 1) (by omega) rfl) rfl f119 tw_1126 tw_1123 tw_1125 tw_26 tw_46 (by decide +kernel) rfl rfl ⟨by show 2 + 1 ≤ R.frames; omega, by show 8 + (5 + 11) + 40 ≤ R.locals; omega⟩ rfl hl.1 rfl (Nat.le_of_ble_eq_true rfl) dd_MO_isHeaders_209 ⟨by omega, by omega⟩) (fun r124 M125 H locs hw126 hP hS => ?_)
                      refine W.widen (k := 0) (n := 0) (by omega) (by omega) ?_
                      obtain ⟨er124, hnr124, hvr124, hd127, hF128⟩ := hw126
                      have hF128 := hF123.trans hF128
                      obtain ⟨g129_0, g129_1, g129_3, g129_4, g129_5, g129_7, g129_8, g129_9, g129_10, g129_11, g129_14, g129_15, g129_16, g129_17, g129_19, g129_20, g129_21, -, -⟩ := id hd127
                      have g129_0 : M125 (P 0) = some (.inr (6, [.int (I 0), .ref (P 1), .int (I 2), .ref (P 3), .ref (P 4), .ref (P 5), .int (I 6), .ref (P 7), .ref (P 8), .ref (P 9), .ref (P 10), .ref (P 11), .int (I 12), .int (I 13), .ref (P 14), .ref (P 15), .ref (P 16), .ref (P 17), .int (nI er124), .ref (P 19), .ref (P 20), .ref (P 21)])) := g129_0
                      have hb1r124 := hnr124.1
                      have hb2r124 := hnr124.2.1
                      refine lv_ldc2 (v := -1) hx hb hown (hts _ tw_1122) dd_MO_isHeaders_212 ?_
                      refine W.lcmp hx hb dd_MO_isHeaders_215 ?_
                      refine hi_if_eq (tgt := 223) hx hb dd_MO_isHeaders_216 (by decide) (fun c130 => ?_) (fun c130 => ?_)
                      · have hvl : ¬ er124 - (er91 + 1) < 7 := fun h9 => by
                          have h8 := lc_eq c130
                          rw [hvr124, if_pos h9] at h8
                          exact cd_ne (fun c hc => (rn_r hnr124 (fun _ => pt_r) c hc).2) (by rw [rn_len hnr124]; omega) h8
                        refine lv_iconst (v := nI 0) hx hb dd_MO_isHeaders_223 (by decide +kernel) ?_
                        refine lv_istore_n (lv' := [(1, .int (nI 0)), (2, .int (nI (n + 1))), (0, .ref (P 0))]) hx hb dd_MO_isHeaders_224 rfl hl (by decide) rfl (fun ls hl => ?_)
                        refine lv_goto (tgt := 87) hx hb dd_MO_isHeaders_225 (by decide) ?_
                        exact ih87 er124 (n + 1) false M125 (by omega) (by omega) (fun h9 => by cases h9) (by rw [hg, hg1, Bool.true_and, rs_2 (by omega) c44 hnr91 (by omega) c61 hnr124, decide_eq_false hvl, Bool.false_and, Bool.and_false, Bool.and_false] <;> rfl) (⟨g129_0, g129_1, g129_3, g129_4, g129_5, g129_7, g129_8, g129_9, g129_10, g129_11, g129_14, g129_15, g129_16, g129_17, g129_19, g129_20, g129_21, po, pb⟩) (hF128) (by omega) _ _ _ hP hS (lv_sub hl [2, 0, 1] rfl)
                      · have hvl : er124 - (er91 + 1) < 7 := by
                          by_cases h9 : er124 - (er91 + 1) < 7
                          · exact h9
                          · exact absurd (by rw [hvr124, if_neg h9]) (lc_ne c130)
                        refine lv_iconst (v := nI 1) hx hb dd_MO_isHeaders_219 (by decide +kernel) ?_
                        refine lv_goto (tgt := 224) hx hb dd_MO_isHeaders_220 (by decide) ?_
                        refine lv_istore_n (lv' := [(1, .int (nI 1)), (2, .int (nI (n + 1))), (0, .ref (P 0))]) hx hb dd_MO_isHeaders_224 rfl hl (by decide) rfl (fun ls hl => ?_)
                        refine lv_goto (tgt := 87) hx hb dd_MO_isHeaders_225 (by decide) ?_
                        exact ih87 er124 (n + 1) true M125 (by omega) (by omega) (fun _ => by omega) (by rw [hg, hg1, Bool.true_and, rs_2 (by omega) c44 hnr91 (by omega) c61 hnr124, decide_eq_true (show n < 4 by omega), decide_eq_true hnm, decide_eq_true hvl] <;> rfl) (⟨g129_0, g129_1, g129_3, g129_4, g129_5, g129_7, g129_8, g129_9, g129_10, g129_11, g129_14, g129_15, g129_16, g129_17, g129_19, g129_20, g129_21, po, pb⟩) (hF128) (by omega) _ _ _ hP hS (lv_sub hl [2, 0, 1] rfl)
    have kk131 : hm_k M M [(P 0)] := hm_krf
    have kk132 : hm_k M M1 [(P 0)] := hm_ku kk131 (Or.inr (by simp)) eM1
    exact lp87 _ 3 0 g0 M1 (by omega) (by omega) (fun h9 => by have := hlen h9; omega) (by rw [ru_ok, hhd]; rfl) (⟨f18, f2, f3, f4, f5, f6, f7, f8, f9, f10, f11, f12, f13, f14, f15, f16, f17, po, pb⟩) (cz_F.k0 kk132 (hm_a1 ⟨by rw [po 0 (by decide)]; unfold pm; omega, _, f18⟩)) (Nat.lt_succ_self _) _ _ _ hP hS (lv_sub hl [2, 1, 0] rfl)
  refine lv_aload_n hx hb dd_MO_isHeaders_0 rfl (lv_at hl 0 rfl) ?_
  refine hm_get (ci := 6) (C := rn_MO) (T := ft_MO) (N := 22) hx hb hts fi_MO hown hE.K hP p0 rfl 2 (by decide) (hts _ tw_988) (fun _ h9 => h9) rfl dd_MO_isHeaders_1 ?_
  refine W.eq (g2 := F0 m 4 ls [.int (nI t.length)]) (by rw [ti1]) ?_
  refine lv_iconst (v := nI 2) hx hb dd_MO_isHeaders_4 (by decide +kernel) ?_
  refine hn_icmp_le (tgt := 78) hx hb (by omega) (by omega) dd_MO_isHeaders_5 (by decide) (fun c133 => ?_) (fun c133 => ?_)
  · have hhd : ru_hd t = false := ru_hd2 (by omega)
    refine lv_iconst (v := nI 0) hx hb dd_MO_isHeaders_78 (by decide +kernel) ?_
    exact J79 false (hhd) (fun h9 => by cases h9) _ _ _ hP hS (lv_sub hl [0] rfl)
  · refine lv_aload_n hx hb dd_MO_isHeaders_8 rfl (lv_at hl 0 rfl) ?_
    refine hm_get (ci := 6) (C := rn_MO) (T := ft_MO) (N := 22) hx hb hts fi_MO hown hE.K hP p0 rfl 1 (by decide) (hts _ tw_987) (fun _ h9 => h9) rfl dd_MO_isHeaders_9 ?_
    refine lv_iconst (v := nI 0) hx hb dd_MO_isHeaders_12 (by decide +kernel) ?_
    refine hm_iald (j := 0) hx hb hE.K hP 2 p1 rfl (vp_in_nI (by omega) (by omega)) (nI_clamp (by omega)) dd_MO_isHeaders_13 ?_
    refine W.eq (g2 := F0 m 14 ls [.int (nI (t.getD 0 0))]) (by rw [ti2 0 (by omega)]) ?_
    refine lv_bipush (v := nI 97) hx hb dd_MO_isHeaders_14 (by decide +kernel) ?_
    refine hn_icmp_ne (tgt := 41) hx hb (by omega) (by omega) dd_MO_isHeaders_16 (by decide) (fun c134 => ?_) (fun c134 => ?_)
    · refine lv_aload_n hx hb dd_MO_isHeaders_41 rfl (lv_at hl 0 rfl) ?_
      refine hm_get (ci := 6) (C := rn_MO) (T := ft_MO) (N := 22) hx hb hts fi_MO hown hE.K hP p0 rfl 1 (by decide) (hts _ tw_987) (fun _ h9 => h9) rfl dd_MO_isHeaders_42 ?_
      refine lv_iconst (v := nI 0) hx hb dd_MO_isHeaders_45 (by decide +kernel) ?_
      refine hm_iald (j := 0) hx hb hE.K hP 2 p1 rfl (vp_in_nI (by omega) (by omega)) (nI_clamp (by omega)) dd_MO_isHeaders_46 ?_
      refine W.eq (g2 := F0 m 47 ls [.int (nI (t.getD 0 0))]) (by rw [ti2 0 (by omega)]) ?_
      refine lv_bipush (v := nI 97) hx hb dd_MO_isHeaders_47 (by decide +kernel) ?_
      refine hn_icmp_ne (tgt := 78) hx hb (by omega) (by omega) dd_MO_isHeaders_49 (by decide) (fun c135 => ?_) (fun c135 => ?_)
      · have hhd : ru_hd t = false := by rw [ru_hd3 (by omega)]; exact decide_eq_false (by omega)
        refine lv_iconst (v := nI 0) hx hb dd_MO_isHeaders_78 (by decide +kernel) ?_
        exact J79 false (hhd) (fun h9 => by cases h9) _ _ _ hP hS (lv_sub hl [0] rfl)
      · refine lv_aload_n hx hb dd_MO_isHeaders_52 rfl (lv_at hl 0 rfl) ?_
        refine hm_get (ci := 6) (C := rn_MO) (T := ft_MO) (N := 22) hx hb hts fi_MO hown hE.K hP p0 rfl 1 (by decide) (hts _ tw_987) (fun _ h9 => h9) rfl dd_MO_isHeaders_53 ?_
        refine lv_iconst (v := nI 1) hx hb dd_MO_isHeaders_56 (by decide +kernel) ?_
        refine hm_iald (j := 1) hx hb hE.K hP 2 p1 rfl (vp_in_nI (by omega) (by omega)) (nI_clamp (by omega)) dd_MO_isHeaders_57 ?_
        refine W.eq (g2 := F0 m 58 ls [.int (nI (t.getD 1 0))]) (by rw [ti2 1 (by omega)]) ?_
        refine lv_bipush (v := nI 110) hx hb dd_MO_isHeaders_58 (by decide +kernel) ?_
        refine hn_icmp_ne (tgt := 78) hx hb (by omega) (by omega) dd_MO_isHeaders_60 (by decide) (fun c136 => ?_) (fun c136 => ?_)
        · have hhd : ru_hd t = false := by rw [ru_hd3 (by omega)]; exact decide_eq_false (by omega)
          refine lv_iconst (v := nI 0) hx hb dd_MO_isHeaders_78 (by decide +kernel) ?_
          exact J79 false (hhd) (fun h9 => by cases h9) _ _ _ hP hS (lv_sub hl [0] rfl)
        · refine lv_aload_n hx hb dd_MO_isHeaders_63 rfl (lv_at hl 0 rfl) ?_
          refine hm_get (ci := 6) (C := rn_MO) (T := ft_MO) (N := 22) hx hb hts fi_MO hown hE.K hP p0 rfl 1 (by decide) (hts _ tw_987) (fun _ h9 => h9) rfl dd_MO_isHeaders_64 ?_
          refine lv_iconst (v := nI 2) hx hb dd_MO_isHeaders_67 (by decide +kernel) ?_
          refine hm_iald (j := 2) hx hb hE.K hP 2 p1 rfl (vp_in_nI (by omega) (by omega)) (nI_clamp (by omega)) dd_MO_isHeaders_68 ?_
          refine W.eq (g2 := F0 m 69 ls [.int (nI (t.getD 2 0))]) (by rw [ti2 2 (by omega)]) ?_
          refine lv_bipush (v := nI 121) hx hb dd_MO_isHeaders_69 (by decide +kernel) ?_
          refine hn_icmp_ne (tgt := 78) hx hb (by omega) (by omega) dd_MO_isHeaders_71 (by decide) (fun c137 => ?_) (fun c137 => ?_)
          · have hhd : ru_hd t = false := by rw [ru_hd3 (by omega)]; exact decide_eq_false (by omega)
            refine lv_iconst (v := nI 0) hx hb dd_MO_isHeaders_78 (by decide +kernel) ?_
            exact J79 false (hhd) (fun h9 => by cases h9) _ _ _ hP hS (lv_sub hl [0] rfl)
          · have hhd : ru_hd t = true := by rw [ru_hd3 (by omega)]; exact decide_eq_true (by omega)
            refine lv_iconst (v := nI 1) hx hb dd_MO_isHeaders_74 (by decide +kernel) ?_
            refine lv_goto (tgt := 79) hx hb dd_MO_isHeaders_75 (by decide) ?_
            exact J79 true (hhd) (fun _ => by omega) _ _ _ hP hS (lv_sub hl [0] rfl)
    · refine lv_aload_n hx hb dd_MO_isHeaders_19 rfl (lv_at hl 0 rfl) ?_
      refine hm_get (ci := 6) (C := rn_MO) (T := ft_MO) (N := 22) hx hb hts fi_MO hown hE.K hP p0 rfl 1 (by decide) (hts _ tw_987) (fun _ h9 => h9) rfl dd_MO_isHeaders_20 ?_
      refine lv_iconst (v := nI 1) hx hb dd_MO_isHeaders_23 (by decide +kernel) ?_
      refine hm_iald (j := 1) hx hb hE.K hP 2 p1 rfl (vp_in_nI (by omega) (by omega)) (nI_clamp (by omega)) dd_MO_isHeaders_24 ?_
      refine W.eq (g2 := F0 m 25 ls [.int (nI (t.getD 1 0))]) (by rw [ti2 1 (by omega)]) ?_
      refine lv_bipush (v := nI 108) hx hb dd_MO_isHeaders_25 (by decide +kernel) ?_
      refine hn_icmp_ne (tgt := 41) hx hb (by omega) (by omega) dd_MO_isHeaders_27 (by decide) (fun c138 => ?_) (fun c138 => ?_)
      · refine lv_aload_n hx hb dd_MO_isHeaders_41 rfl (lv_at hl 0 rfl) ?_
        refine hm_get (ci := 6) (C := rn_MO) (T := ft_MO) (N := 22) hx hb hts fi_MO hown hE.K hP p0 rfl 1 (by decide) (hts _ tw_987) (fun _ h9 => h9) rfl dd_MO_isHeaders_42 ?_
        refine lv_iconst (v := nI 0) hx hb dd_MO_isHeaders_45 (by decide +kernel) ?_
        refine hm_iald (j := 0) hx hb hE.K hP 2 p1 rfl (vp_in_nI (by omega) (by omega)) (nI_clamp (by omega)) dd_MO_isHeaders_46 ?_
        refine W.eq (g2 := F0 m 47 ls [.int (nI (t.getD 0 0))]) (by rw [ti2 0 (by omega)]) ?_
        refine lv_bipush (v := nI 97) hx hb dd_MO_isHeaders_47 (by decide +kernel) ?_
        refine hn_icmp_ne (tgt := 78) hx hb (by omega) (by omega) dd_MO_isHeaders_49 (by decide) (fun c139 => ?_) (fun c139 => ?_)
        · have hhd : ru_hd t = false := by rw [ru_hd3 (by omega)]; exact decide_eq_false (by omega)
          refine lv_iconst (v := nI 0) hx hb dd_MO_isHeaders_78 (by decide +kernel) ?_
          exact J79 false (hhd) (fun h9 => by cases h9) _ _ _ hP hS (lv_sub hl [0] rfl)
        · refine lv_aload_n hx hb dd_MO_isHeaders_52 rfl (lv_at hl 0 rfl) ?_
          refine hm_get (ci := 6) (C := rn_MO) (T := ft_MO) (N := 22) hx hb hts fi_MO hown hE.K hP p0 rfl 1 (by decide) (hts _ tw_987) (fun _ h9 => h9) rfl dd_MO_isHeaders_53 ?_
          refine lv_iconst (v := nI 1) hx hb dd_MO_isHeaders_56 (by decide +kernel) ?_
          refine hm_iald (j := 1) hx hb hE.K hP 2 p1 rfl (vp_in_nI (by omega) (by omega)) (nI_clamp (by omega)) dd_MO_isHeaders_57 ?_
          refine W.eq (g2 := F0 m 58 ls [.int (nI (t.getD 1 0))]) (by rw [ti2 1 (by omega)]) ?_
          refine lv_bipush (v := nI 110) hx hb dd_MO_isHeaders_58 (by decide +kernel) ?_
          refine hn_icmp_ne (tgt := 78) hx hb (by omega) (by omega) dd_MO_isHeaders_60 (by decide) (fun c140 => ?_) (fun c140 => ?_)
          · have hhd : ru_hd t = false := by rw [ru_hd3 (by omega)]; exact decide_eq_false (by omega)
            refine lv_iconst (v := nI 0) hx hb dd_MO_isHeaders_78 (by decide +kernel) ?_
            exact J79 false (hhd) (fun h9 => by cases h9) _ _ _ hP hS (lv_sub hl [0] rfl)
          · refine lv_aload_n hx hb dd_MO_isHeaders_63 rfl (lv_at hl 0 rfl) ?_
            refine hm_get (ci := 6) (C := rn_MO) (T := ft_MO) (N := 22) hx hb hts fi_MO hown hE.K hP p0 rfl 1 (by decide) (hts _ tw_987) (fun _ h9 => h9) rfl dd_MO_isHeaders_64 ?_
            refine lv_iconst (v := nI 2) hx hb dd_MO_isHeaders_67 (by decide +kernel) ?_
            refine hm_iald (j := 2) hx hb hE.K hP 2 p1 rfl (vp_in_nI (by omega) (by omega)) (nI_clamp (by omega)) dd_MO_isHeaders_68 ?_
            refine W.eq (g2 := F0 m 69 ls [.int (nI (t.getD 2 0))]) (by rw [ti2 2 (by omega)]) ?_
            refine lv_bipush (v := nI 121) hx hb dd_MO_isHeaders_69 (by decide +kernel) ?_
            refine hn_icmp_ne (tgt := 78) hx hb (by omega) (by omega) dd_MO_isHeaders_71 (by decide) (fun c141 => ?_) (fun c141 => ?_)
            · have hhd : ru_hd t = false := by rw [ru_hd3 (by omega)]; exact decide_eq_false (by omega)
              refine lv_iconst (v := nI 0) hx hb dd_MO_isHeaders_78 (by decide +kernel) ?_
              exact J79 false (hhd) (fun h9 => by cases h9) _ _ _ hP hS (lv_sub hl [0] rfl)
            · have hhd : ru_hd t = true := by rw [ru_hd3 (by omega)]; exact decide_eq_true (by omega)
              refine lv_iconst (v := nI 1) hx hb dd_MO_isHeaders_74 (by decide +kernel) ?_
              refine lv_goto (tgt := 79) hx hb dd_MO_isHeaders_75 (by decide) ?_
              exact J79 true (hhd) (fun _ => by omega) _ _ _ hP hS (lv_sub hl [0] rfl)
      · refine lv_aload_n hx hb dd_MO_isHeaders_30 rfl (lv_at hl 0 rfl) ?_
        refine hm_get (ci := 6) (C := rn_MO) (T := ft_MO) (N := 22) hx hb hts fi_MO hown hE.K hP p0 rfl 1 (by decide) (hts _ tw_987) (fun _ h9 => h9) rfl dd_MO_isHeaders_31 ?_
        refine lv_iconst (v := nI 2) hx hb dd_MO_isHeaders_34 (by decide +kernel) ?_
        refine hm_iald (j := 2) hx hb hE.K hP 2 p1 rfl (vp_in_nI (by omega) (by omega)) (nI_clamp (by omega)) dd_MO_isHeaders_35 ?_
        refine W.eq (g2 := F0 m 36 ls [.int (nI (t.getD 2 0))]) (by rw [ti2 2 (by omega)]) ?_
        refine lv_bipush (v := nI 108) hx hb dd_MO_isHeaders_36 (by decide +kernel) ?_
        refine hn_icmp_eq (tgt := 74) hx hb (by omega) (by omega) dd_MO_isHeaders_38 (by decide) (fun c142 => ?_) (fun c142 => ?_)
        · have hhd : ru_hd t = true := by rw [ru_hd3 (by omega)]; exact decide_eq_true (by omega)
          refine lv_iconst (v := nI 1) hx hb dd_MO_isHeaders_74 (by decide +kernel) ?_
          refine lv_goto (tgt := 79) hx hb dd_MO_isHeaders_75 (by decide) ?_
          exact J79 true (hhd) (fun _ => by omega) _ _ _ hP hS (lv_sub hl [0] rfl)
        · refine lv_aload_n hx hb dd_MO_isHeaders_41 rfl (lv_at hl 0 rfl) ?_
          refine hm_get (ci := 6) (C := rn_MO) (T := ft_MO) (N := 22) hx hb hts fi_MO hown hE.K hP p0 rfl 1 (by decide) (hts _ tw_987) (fun _ h9 => h9) rfl dd_MO_isHeaders_42 ?_
          refine lv_iconst (v := nI 0) hx hb dd_MO_isHeaders_45 (by decide +kernel) ?_
          refine hm_iald (j := 0) hx hb hE.K hP 2 p1 rfl (vp_in_nI (by omega) (by omega)) (nI_clamp (by omega)) dd_MO_isHeaders_46 ?_
          refine W.eq (g2 := F0 m 47 ls [.int (nI (t.getD 0 0))]) (by rw [ti2 0 (by omega)]) ?_
          refine lv_bipush (v := nI 97) hx hb dd_MO_isHeaders_47 (by decide +kernel) ?_
          refine hn_icmp_ne (tgt := 78) hx hb (by omega) (by omega) dd_MO_isHeaders_49 (by decide) (fun c143 => ?_) (fun c143 => ?_)
          · have hhd : ru_hd t = false := by rw [ru_hd3 (by omega)]; exact decide_eq_false (by omega)
            refine lv_iconst (v := nI 0) hx hb dd_MO_isHeaders_78 (by decide +kernel) ?_
            exact J79 false (hhd) (fun h9 => by cases h9) _ _ _ hP hS (lv_sub hl [0] rfl)
          · refine lv_aload_n hx hb dd_MO_isHeaders_52 rfl (lv_at hl 0 rfl) ?_
            refine hm_get (ci := 6) (C := rn_MO) (T := ft_MO) (N := 22) hx hb hts fi_MO hown hE.K hP p0 rfl 1 (by decide) (hts _ tw_987) (fun _ h9 => h9) rfl dd_MO_isHeaders_53 ?_
            refine lv_iconst (v := nI 1) hx hb dd_MO_isHeaders_56 (by decide +kernel) ?_
            refine hm_iald (j := 1) hx hb hE.K hP 2 p1 rfl (vp_in_nI (by omega) (by omega)) (nI_clamp (by omega)) dd_MO_isHeaders_57 ?_
            refine W.eq (g2 := F0 m 58 ls [.int (nI (t.getD 1 0))]) (by rw [ti2 1 (by omega)]) ?_
            refine lv_bipush (v := nI 110) hx hb dd_MO_isHeaders_58 (by decide +kernel) ?_
            refine hn_icmp_ne (tgt := 78) hx hb (by omega) (by omega) dd_MO_isHeaders_60 (by decide) (fun c144 => ?_) (fun c144 => ?_)
            · have hhd : ru_hd t = false := by rw [ru_hd3 (by omega)]; exact decide_eq_false (by omega)
              refine lv_iconst (v := nI 0) hx hb dd_MO_isHeaders_78 (by decide +kernel) ?_
              exact J79 false (hhd) (fun h9 => by cases h9) _ _ _ hP hS (lv_sub hl [0] rfl)
            · refine lv_aload_n hx hb dd_MO_isHeaders_63 rfl (lv_at hl 0 rfl) ?_
              refine hm_get (ci := 6) (C := rn_MO) (T := ft_MO) (N := 22) hx hb hts fi_MO hown hE.K hP p0 rfl 1 (by decide) (hts _ tw_987) (fun _ h9 => h9) rfl dd_MO_isHeaders_64 ?_
              refine lv_iconst (v := nI 2) hx hb dd_MO_isHeaders_67 (by decide +kernel) ?_
              refine hm_iald (j := 2) hx hb hE.K hP 2 p1 rfl (vp_in_nI (by omega) (by omega)) (nI_clamp (by omega)) dd_MO_isHeaders_68 ?_
              refine W.eq (g2 := F0 m 69 ls [.int (nI (t.getD 2 0))]) (by rw [ti2 2 (by omega)]) ?_
              refine lv_bipush (v := nI 121) hx hb dd_MO_isHeaders_69 (by decide +kernel) ?_
              refine hn_icmp_ne (tgt := 78) hx hb (by omega) (by omega) dd_MO_isHeaders_71 (by decide) (fun c145 => ?_) (fun c145 => ?_)
              · have hhd : ru_hd t = false := by rw [ru_hd3 (by omega)]; exact decide_eq_false (by omega)
                refine lv_iconst (v := nI 0) hx hb dd_MO_isHeaders_78 (by decide +kernel) ?_
                exact J79 false (hhd) (fun h9 => by cases h9) _ _ _ hP hS (lv_sub hl [0] rfl)
              · have hhd : ru_hd t = true := by rw [ru_hd3 (by omega)]; exact decide_eq_true (by omega)
                refine lv_iconst (v := nI 1) hx hb dd_MO_isHeaders_74 (by decide +kernel) ?_
                refine lv_goto (tgt := 79) hx hb dd_MO_isHeaders_75 (by decide) ?_
                exact J79 true (hhd) (fun _ => by omega) _ _ _ hP hS (lv_sub hl [0] rfl)
set_option maxHeartbeats 4000000 in
set_option maxRecDepth 100000 in
theorem kc_MO_isText (l : Launch) (B : Nat) (D : va_G) (G : Nat → Nat) (M : hm_M) (P O : Nat → Nat) (I : Nat → Int32) (A : Nat → Nat → Int32) (L : Nat → Nat → Int64) (hD : mo_D B D P O M I A L) (t : List Nat) (hT : tpS (I 2) (A 1) t) (so : Int32) : Met l yy_MO_isText ws_MO_isText ({ frames := 4, cells := 0, slots := 0, locals := 86 }) (hm_Pc B D G M [.ref (P 0), .int so]) (hm_Ni B D (fun r M1 => r = nI (bz (tx_for so t)) ∧ ∃ z, mo_D B D P O M1 (va_up I 18 z) A L ∧ cz_F O M O M1 pm)) (0) (0) (hm_A B) := by
  refine Met.ofW (cc := cd_MO_isText) (maxL := 2) (ret := ((some FieldType.boolean))) (by decide) rfl ?_
  intro p e s m args below meth c s₁ B0 hml hv
  obtain ⟨rfl, hE, hP⟩ := hv
  have hx := B0.exec
  have hb := B0.bytes
  have hr := B0.returns
  have hts : ∀ w ∈ tb_G, w.before _ s = true := fun w h => atoms_spec (ws := ws_MO_isText) B0.pre w (List.mem_cons_of_mem _ h)
  have hown : s.vm.findClass "RouteDeskModel" = some m.cls := findClass_of_methodNamed B0.named
  have hlocks := B0.notSynchronized
  have hRf : (headSpec ws_MO_isText { frames := 4, cells := 0, slots := 0, locals := 86 }).room.frames = 4 := rfl
  have hRl : (headSpec ws_MO_isText { frames := 4, cells := 0, slots := 0, locals := 86 }).room.locals = 86 := rfl
  have hRc : (headSpec ws_MO_isText { frames := 4, cells := 0, slots := 0, locals := 86 }).room.cells = 0 := rfl
  have hRs : (headSpec ws_MO_isText { frames := 4, cells := 0, slots := 0, locals := 86 }).room.slots = 0 := rfl
  generalize (headSpec ws_MO_isText { frames := 4, cells := 0, slots := 0, locals := 86 }).room = R at hRf hRl hRc hRs ⊢
  have hS : va_S (hm_A B) s.heap s.heap [] := va_S.rf
  have hl := lv_entry ([.ref (P 0), .int so]) (n := 2) (Nat.le_of_ble_eq_true rfl)
  rw [lg_entry_eq]
  generalize (lg_sl ([.ref (P 0), .int so]) ++ List.replicate (2 - (lg_sl ([.ref (P 0), .int so])).length) Slot.unset).toArray = ls at hl ⊢
  have hl : lv_has ls 2 [(0, .ref (P 0)), (1, .int so)] := hl
  have t16 : (nI 16).toInt = 16 := by decide
  have tm1 : (-1 : Int32).toInt = -1 := by decide
  have t0 : (nI 0).toInt = 0 := by decide
  have t2 : (nI 2).toInt = 2 := by decide
  have t3 : (nI 3).toInt = 3 := by decide
  have t1 : (nI 1).toInt = 1 := by decide
  have t4 : (nI 4).toInt = 4 := by decide
  obtain ⟨p0, p1, p3, p4, p5, p7, p8, p9, p10, p11, p14, p15, p16, p17, p19, p20, p21, po, pb⟩ := id hD
  obtain ⟨ti1, ti2, ti3, ti4⟩ := id hT
  refine lv_iload_n hx hb dd_MO_isText_0 rfl (lv_at hl 1 rfl) ?_
  refine hi_if_eq (tgt := 41) hx hb dd_MO_isText_1 (by decide) (fun c1 => ?_) (fun c1 => ?_)
  · refine lv_iconst (v := nI 1) hx hb dd_MO_isText_41 (by decide +kernel) ?_
    refine lv_goto (tgt := 46) hx hb dd_MO_isText_42 (by decide) ?_
    exact hm_Ei (v := nI 1) hx hb hr rfl hS hP (⟨bz_1 (by rw [tx_for, if_pos (by omega)]), (I 18), ⟨p0, p1, p3, p4, p5, p7, p8, p9, p10, p11, p14, p15, p16, p17, p19, p20, p21, po, pb⟩, cz_F.rf⟩) hlocks (by omega) (by omega) dd_MO_isText_46
  · refine lv_iload_n hx hb dd_MO_isText_4 rfl (lv_at hl 1 rfl) ?_
    refine lv_iconst (v := nI 1) hx hb dd_MO_isText_5 (by decide +kernel) ?_
    refine hi_icmp_ne (tgt := 19) hx hb dd_MO_isText_6 (by decide) (fun c2 => ?_) (fun c2 => ?_)
    · refine lv_iload_n hx hb dd_MO_isText_19 rfl (lv_at hl 1 rfl) ?_
      refine lv_iconst (v := nI 2) hx hb dd_MO_isText_20 (by decide +kernel) ?_
      refine hi_icmp_ne (tgt := 34) hx hb dd_MO_isText_21 (by decide) (fun c3 => ?_) (fun c3 => ?_)
      · refine lv_aload_n hx hb dd_MO_isText_34 rfl (lv_at hl 0 rfl) ?_
        have hF5 : cz_F O M O M pm := cz_F.rf
        have hd4 : mo_D B D P O M I A L := ⟨p0, p1, p3, p4, p5, p7, p8, p9, p10, p11, p14, p15, p16, p17, p19, p20, p21, po, pb⟩
        refine hm_ci hS (hm_rV 0 (As := []) (rest := []) ⟨hx, hb, hml, hown, hts⟩ hE hS hP (kc_MO_isHeaders l B D G M P O I A L hd4 t hT) rfl p0 tw_1114 tw_1111 tw_1113 tw_24 tw_46 (by decide +kernel) rfl rfl ⟨by show 3 + 1 ≤ R.frames; omega, by show 8 + (3 + 11) + 64 ≤ R.locals; omega⟩ rfl hl.1 rfl (Nat.le_of_ble_eq_true rfl) dd_MO_isText_35 ⟨by omega, by omega⟩) (fun r6 M7 H locs hw8 hP hS => ?_)
        refine W.widen (k := 0) (n := 0) (by omega) (by omega) ?_
        obtain ⟨rfl, zr6, hd9, hF10⟩ := hw8
        have hF10 := hF5.trans hF10
        obtain ⟨g11_0, g11_1, g11_3, g11_4, g11_5, g11_7, g11_8, g11_9, g11_10, g11_11, g11_14, g11_15, g11_16, g11_17, g11_19, g11_20, g11_21, -, -⟩ := id hd9
        have g11_0 : M7 (P 0) = some (.inr (6, [.int (I 0), .ref (P 1), .int (I 2), .ref (P 3), .ref (P 4), .ref (P 5), .int (I 6), .ref (P 7), .ref (P 8), .ref (P 9), .ref (P 10), .ref (P 11), .int (I 12), .int (I 13), .ref (P 14), .ref (P 15), .ref (P 16), .ref (P 17), .int zr6, .ref (P 19), .ref (P 20), .ref (P 21)])) := g11_0
        refine hn_if_eq (tgt := 45) hx hb (bz_b _) dd_MO_isText_38 (by decide) (fun c12 => ?_) (fun c12 => ?_)
        · have hbb := bz_f c12
          refine lv_iconst (v := nI 0) hx hb dd_MO_isText_45 (by decide +kernel) ?_
          exact hm_Ei (v := nI 0) hx hb hr rfl hS hP (⟨bz_0 (by rw [tx_for, if_neg (by omega), if_neg (by omega), if_neg (by omega), hbb]), zr6, ⟨g11_0, g11_1, g11_3, g11_4, g11_5, g11_7, g11_8, g11_9, g11_10, g11_11, g11_14, g11_15, g11_16, g11_17, g11_19, g11_20, g11_21, po, pb⟩, hF10⟩) hlocks (by omega) (by omega) dd_MO_isText_46
        · have hbb := bz_t c12
          refine lv_iconst (v := nI 1) hx hb dd_MO_isText_41 (by decide +kernel) ?_
          refine lv_goto (tgt := 46) hx hb dd_MO_isText_42 (by decide) ?_
          exact hm_Ei (v := nI 1) hx hb hr rfl hS hP (⟨bz_1 (by rw [tx_for, if_neg (by omega), if_neg (by omega), if_neg (by omega), hbb]), zr6, ⟨g11_0, g11_1, g11_3, g11_4, g11_5, g11_7, g11_8, g11_9, g11_10, g11_11, g11_14, g11_15, g11_16, g11_17, g11_19, g11_20, g11_21, po, pb⟩, hF10⟩) hlocks (by omega) (by omega) dd_MO_isText_46
      · refine lv_aload_n hx hb dd_MO_isText_24 rfl (lv_at hl 0 rfl) ?_
        have hd13 : mo_D B D P O M I A L := ⟨p0, p1, p3, p4, p5, p7, p8, p9, p10, p11, p14, p15, p16, p17, p19, p20, p21, po, pb⟩
        refine hm_ci hS (hm_rV 0 (As := []) (rest := []) ⟨hx, hb, hml, hown, hts⟩ hE hS hP (kc_MO_isPattern l B D G M P O I A L hd13 t hT) rfl p0 tw_1110 tw_1107 tw_1109 tw_23 tw_46 (by decide +kernel) rfl rfl ⟨by show 0 + 1 ≤ R.frames; omega, by show 8 + (2 + 11) + 0 ≤ R.locals; omega⟩ rfl hl.1 rfl (Nat.le_of_ble_eq_true rfl) dd_MO_isText_25 ⟨by omega, by omega⟩) (fun r14 M15 H locs hw16 hP hS => ?_)
        refine W.widen (k := 0) (n := 0) (by omega) (by omega) ?_
        obtain ⟨hrM15, eM15⟩ := hw16
        rw [eM15] at hP
        obtain rfl : r14 = nI (bz ((wd_sp 46 t).all pt_ok)) := hrM15
        refine hn_if_eq (tgt := 45) hx hb (bz_b _) dd_MO_isText_28 (by decide) (fun c17 => ?_) (fun c17 => ?_)
        · have hbb := bz_f c17
          refine lv_iconst (v := nI 0) hx hb dd_MO_isText_45 (by decide +kernel) ?_
          exact hm_Ei (v := nI 0) hx hb hr rfl hS hP (⟨bz_0 (by rw [tx_for, if_neg (by omega), if_neg (by omega), if_pos (by omega), hbb]), (I 18), ⟨p0, p1, p3, p4, p5, p7, p8, p9, p10, p11, p14, p15, p16, p17, p19, p20, p21, po, pb⟩, cz_F.rf⟩) hlocks (by omega) (by omega) dd_MO_isText_46
        · have hbb := bz_t c17
          refine lv_goto (tgt := 41) hx hb dd_MO_isText_31 (by decide) ?_
          refine lv_iconst (v := nI 1) hx hb dd_MO_isText_41 (by decide +kernel) ?_
          refine lv_goto (tgt := 46) hx hb dd_MO_isText_42 (by decide) ?_
          exact hm_Ei (v := nI 1) hx hb hr rfl hS hP (⟨bz_1 (by rw [tx_for, if_neg (by omega), if_neg (by omega), if_pos (by omega), hbb]), (I 18), ⟨p0, p1, p3, p4, p5, p7, p8, p9, p10, p11, p14, p15, p16, p17, p19, p20, p21, po, pb⟩, cz_F.rf⟩) hlocks (by omega) (by omega) dd_MO_isText_46
    · refine lv_aload_n hx hb dd_MO_isText_9 rfl (lv_at hl 0 rfl) ?_
      refine hm_get (ci := 6) (C := rn_MO) (T := ft_MO) (N := 22) hx hb hts fi_MO hown hE.K hP p0 rfl 2 (by decide) (hts _ tw_988) (fun _ h9 => h9) rfl dd_MO_isText_10 ?_
      refine W.eq (g2 := F0 m 13 ls [.int (nI t.length)]) (by rw [ti1]) ?_
      refine hn_if_ne (tgt := 45) hx hb (by omega) dd_MO_isText_13 (by decide) (fun c18 => ?_) (fun c18 => ?_)
      · have c13 := c18
        refine lv_iconst (v := nI 0) hx hb dd_MO_isText_45 (by decide +kernel) ?_
        exact hm_Ei (v := nI 0) hx hb hr rfl hS hP (⟨bz_0 (by rw [tx_for, if_neg (by omega), if_pos (by omega), decide_eq_false (fun h9 => by rw [h9] at c13; exact absurd c13 (by decide))]), (I 18), ⟨p0, p1, p3, p4, p5, p7, p8, p9, p10, p11, p14, p15, p16, p17, p19, p20, p21, po, pb⟩, cz_F.rf⟩) hlocks (by omega) (by omega) dd_MO_isText_46
      · refine lv_goto (tgt := 41) hx hb dd_MO_isText_16 (by decide) ?_
        refine lv_iconst (v := nI 1) hx hb dd_MO_isText_41 (by decide +kernel) ?_
        refine lv_goto (tgt := 46) hx hb dd_MO_isText_42 (by decide) ?_
        exact hm_Ei (v := nI 1) hx hb hr rfl hS hP (⟨bz_1 (by rw [tx_for, if_neg (by omega), if_pos (by omega), decide_eq_true (List.length_eq_zero_iff.mp (by omega))]), (I 18), ⟨p0, p1, p3, p4, p5, p7, p8, p9, p10, p11, p14, p15, p16, p17, p19, p20, p21, po, pb⟩, cz_F.rf⟩) hlocks (by omega) (by omega) dd_MO_isText_46
