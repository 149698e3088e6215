/-! the law's start: the first state of class and model -/
theorem st_J {B : Nat} {D : va_G} {G : Nat → Nat} {M0 M1 M2 M3 M4 M5 : hm_M} {q q2 q3 v : Nat} {N P Om : Nat → Nat} {I : Nat → Int32} {A : Nat → Nat → Int32} {L : Nat → Nat → Int64} {eq0 eq2 : va_E}
    (g0 : M0 (G 0) = some (.inl (D.1 104, 0, .inr (.inr (.inr (.inr (fun _ => none))))))) (g1 : tx_S D M0 (G 1) [97, 108, 108]) (g2 : tx_S D M0 (G 2) [97, 110, 121]) (g3 : tx_S D M0 (G 3) []) (g4 : tx_S D M0 (G 4) [])
    (hq : M0 q = none) (e1 : M1 = hm_up M0 q eq0) (hN0 : N 0 = q) (n0 : M2 q = some (.inr (0, [.ref (N 1), .ref (N 2), .ref (N 3), .ref (N 4), .ref (N 5), .ref (N 7)])))
    (n1 : sb_T B D M2 (N 1) v []) (n2 : M2 (N 2) = some (.inl (D.1 105, 16, .inr (.inr (.inr (.inr (fun _ => none))))))) (n3 : M2 (N 3) = some (.inl (D.1 101, 16, .inl (fun _ => 0)))) (n4 : al_D B D G M2 1 (N 4) (G 0) []) (n5 : M2 (N 5) = some (.inr (4, [.ref (G 3), .ref (N 6)]))) (n6 : al_D B D G M2 3 (N 6) (G 0) []) (n7 : M2 (N 7) = some (.inr (5, [.ref (N 8), .ref (N 9), .int (nI 0), .ref (N 10), .int (nI 0)]))) (n8 : M2 (N 8) = some (.inl (D.1 101, 16, .inl (fun _ => 0)))) (n9 : M2 (N 9) = some (.inl (D.1 102, 16, .inl (fun _ => 0)))) (n10 : M2 (N 10) = some (.inl (D.1 101, 16, .inl (fun _ => 0))))
    (hn : ∀ i, 1 ≤ i → i ≤ 10 → M1 (N i) = none ∧ B ≤ N i) (hv : M1 v = none) (hnv : ∀ i, 1 ≤ i → i ≤ 10 → N i ≠ v) (hnn : ∀ i j, 1 ≤ i → i < j → j ≤ 10 → N i ≠ N j) (hk : hm_k M1 M2 [q])
    (hq2 : M2 q2 = none) (e3 : M3 = hm_up M2 q2 eq2) (hP0 : P 0 = q2) (hD : mo_D B D P Om M4 I A L) (hS : mo_S I A L [] (fun _ => none) (fun _ => false) [] [] [] (fun _ => false) (fun _ => false)) (hOz : ∀ z, (∀ k ∈ mo_ks, z ≠ P k) → Om z = 0) (hun : ∀ k ∈ mo_ks, k ≠ 0 → M3 (P k) = none) (hF : cz_F Om M3 Om M4 pm)
    (hq3 : M4 q3 = none) (e5 : M5 = hm_up M4 q3 (.inl (D.1 103, 1, .inr (.inl (fun _ => 0))))) : lw_J B D G N P q3 M5 := by
  have hM3 : ∀ z e, M2 z = some e → M3 z = some e := fun z e hz => by rw [e3]; exact hm_up_o (hm_neN hz hq2) hz
  have hOm : ∀ z e, M2 z = some e → Om z = 0 := fun z e hz => hOz z (fun k hk9 e2 => by
    by_cases h0 : k = 0
    · rw [h0, hP0] at e2; rw [e2, hq2] at hz; cases hz
    · have h9 := hM3 z e hz
      rw [e2, hun k hk9 h0] at h9; cases h9)
  have hM4 : ∀ z e, M2 z = some e → M4 z = some e := fun z e hz => (hF z e (hM3 z e hz)).2.1 (by rw [hOm z e hz]; exact pm_0)
  have hz3 : ∀ z e, M4 z = some e → z ≠ q3 := fun z e hz => hm_neN hz hq3
  have hM5 : ∀ z e, M4 z = some e → M5 z = some e := fun z e hz => by rw [e5]; exact hm_up_o (hz3 z e hz) hz
  have h05 : ∀ z e, M2 z = some e → M5 z = some e := fun z e hz => hM5 z e (hM4 z e hz)
  obtain ⟨O, hO⟩ : ∃ O : Nat → Nat, O = fun z => if z = q3 then 50 else if 7 ≤ Om z / 100 then Om z else if z = N 1 then 100 else if z = v then 101 else if z = N 2 then 200 else if z = N 3 then 300 else if z = N 4 then 400 else if z = N 5 then 500 else if z = N 6 then 501 else if z = N 7 then 600 else if z = N 8 then 601 else if z = N 9 then 602 else if z = N 10 then 603 else 0 := ⟨_, rfl⟩
  have oc : ∀ z e, M2 z = some e → O z = if z = N 1 then 100 else if z = v then 101 else if z = N 2 then 200 else if z = N 3 then 300 else if z = N 4 then 400 else if z = N 5 then 500 else if z = N 6 then 501 else if z = N 7 then 600 else if z = N 8 then 601 else if z = N 9 then 602 else if z = N 10 then 603 else 0 := fun z e hz => by
    rw [hO]
    show (if z = q3 then _ else _) = _
    rw [if_neg (hz3 z e (hM4 z e hz)), hOm z e hz, if_neg (by decide)]
  have d : ∀ i j, 1 ≤ i → i ≤ 10 → 1 ≤ j → j ≤ 10 → i ≠ j → N i ≠ N j := fun i j h1 h2 h3 h4 h5 => by
    rcases Nat.lt_or_gt_of_ne h5 with h | h
    · exact hnn i j h1 h h4
    · exact (hnn j i h3 h h2).symm
  have dv : ∀ i, 1 ≤ i → i ≤ 10 → N i ≠ v := hnv
  obtain ⟨mm, f, ml, s1, s2, s3⟩ := id n1
  obtain ⟨an4, af4, am4, a41, a42, a43⟩ := id n4
  obtain ⟨an6, af6, am6, a61, a62, a63⟩ := id n6
  have o1 : O (N 1) = 100 := by rw [oc _ _ s1, if_pos rfl]
  have ov : O v = 101 := by rw [oc _ _ s2, if_neg (fun h => dv 1 (by decide) (by decide) h.symm), if_pos rfl]
  have o2 : O (N 2) = 200 := by rw [oc _ _ n2, if_neg (d 2 1 (by decide) (by decide) (by decide) (by decide) (by decide)), if_neg (dv 2 (by decide) (by decide)), if_pos rfl]
  have o3 : O (N 3) = 300 := by rw [oc _ _ n3, if_neg (d 3 1 (by decide) (by decide) (by decide) (by decide) (by decide)), if_neg (dv 3 (by decide) (by decide)), if_neg (d 3 2 (by decide) (by decide) (by decide) (by decide) (by decide)), if_pos rfl]
  have o4 : O (N 4) = 400 := by rw [oc _ _ a41, if_neg (d 4 1 (by decide) (by decide) (by decide) (by decide) (by decide)), if_neg (dv 4 (by decide) (by decide)), if_neg (d 4 2 (by decide) (by decide) (by decide) (by decide) (by decide)), if_neg (d 4 3 (by decide) (by decide) (by decide) (by decide) (by decide)), if_pos rfl]
  have o5 : O (N 5) = 500 := by rw [oc _ _ n5, if_neg (d 5 1 (by decide) (by decide) (by decide) (by decide) (by decide)), if_neg (dv 5 (by decide) (by decide)), if_neg (d 5 2 (by decide) (by decide) (by decide) (by decide) (by decide)), if_neg (d 5 3 (by decide) (by decide) (by decide) (by decide) (by decide)), if_neg (d 5 4 (by decide) (by decide) (by decide) (by decide) (by decide)), if_pos rfl]
  have o6 : O (N 6) = 501 := by rw [oc _ _ a61, if_neg (d 6 1 (by decide) (by decide) (by decide) (by decide) (by decide)), if_neg (dv 6 (by decide) (by decide)), if_neg (d 6 2 (by decide) (by decide) (by decide) (by decide) (by decide)), if_neg (d 6 3 (by decide) (by decide) (by decide) (by decide) (by decide)), if_neg (d 6 4 (by decide) (by decide) (by decide) (by decide) (by decide)), if_neg (d 6 5 (by decide) (by decide) (by decide) (by decide) (by decide)), if_pos rfl]
  have o7 : O (N 7) = 600 := by rw [oc _ _ n7, if_neg (d 7 1 (by decide) (by decide) (by decide) (by decide) (by decide)), if_neg (dv 7 (by decide) (by decide)), if_neg (d 7 2 (by decide) (by decide) (by decide) (by decide) (by decide)), if_neg (d 7 3 (by decide) (by decide) (by decide) (by decide) (by decide)), if_neg (d 7 4 (by decide) (by decide) (by decide) (by decide) (by decide)), if_neg (d 7 5 (by decide) (by decide) (by decide) (by decide) (by decide)), if_neg (d 7 6 (by decide) (by decide) (by decide) (by decide) (by decide)), if_pos rfl]
  have o8 : O (N 8) = 601 := by rw [oc _ _ n8, if_neg (d 8 1 (by decide) (by decide) (by decide) (by decide) (by decide)), if_neg (dv 8 (by decide) (by decide)), if_neg (d 8 2 (by decide) (by decide) (by decide) (by decide) (by decide)), if_neg (d 8 3 (by decide) (by decide) (by decide) (by decide) (by decide)), if_neg (d 8 4 (by decide) (by decide) (by decide) (by decide) (by decide)), if_neg (d 8 5 (by decide) (by decide) (by decide) (by decide) (by decide)), if_neg (d 8 6 (by decide) (by decide) (by decide) (by decide) (by decide)), if_neg (d 8 7 (by decide) (by decide) (by decide) (by decide) (by decide)), if_pos rfl]
  have o9 : O (N 9) = 602 := by rw [oc _ _ n9, if_neg (d 9 1 (by decide) (by decide) (by decide) (by decide) (by decide)), if_neg (dv 9 (by decide) (by decide)), if_neg (d 9 2 (by decide) (by decide) (by decide) (by decide) (by decide)), if_neg (d 9 3 (by decide) (by decide) (by decide) (by decide) (by decide)), if_neg (d 9 4 (by decide) (by decide) (by decide) (by decide) (by decide)), if_neg (d 9 5 (by decide) (by decide) (by decide) (by decide) (by decide)), if_neg (d 9 6 (by decide) (by decide) (by decide) (by decide) (by decide)), if_neg (d 9 7 (by decide) (by decide) (by decide) (by decide) (by decide)), if_neg (d 9 8 (by decide) (by decide) (by decide) (by decide) (by decide)), if_pos rfl]
  have o10 : O (N 10) = 603 := by rw [oc _ _ n10, if_neg (d 10 1 (by decide) (by decide) (by decide) (by decide) (by decide)), if_neg (dv 10 (by decide) (by decide)), if_neg (d 10 2 (by decide) (by decide) (by decide) (by decide) (by decide)), if_neg (d 10 3 (by decide) (by decide) (by decide) (by decide) (by decide)), if_neg (d 10 4 (by decide) (by decide) (by decide) (by decide) (by decide)), if_neg (d 10 5 (by decide) (by decide) (by decide) (by decide) (by decide)), if_neg (d 10 6 (by decide) (by decide) (by decide) (by decide) (by decide)), if_neg (d 10 7 (by decide) (by decide) (by decide) (by decide) (by decide)), if_neg (d 10 8 (by decide) (by decide) (by decide) (by decide) (by decide)), if_neg (d 10 9 (by decide) (by decide) (by decide) (by decide) (by decide)), if_pos rfl]
  have hI0 : ∀ z e, M0 z = some e → cz_I O M5 z = some e := fun z e hz => by
    have hzq : z ≠ q := hm_neN hz hq
    have h1 : M1 z = some e := by rw [e1]; exact hm_up_o hzq hz
    have h2 : M2 z = some e := hk z e h1 (hm_n1 hzq)
    have hni : ∀ i, 1 ≤ i → i ≤ 10 → z ≠ N i := fun i h3 h4 => hm_neN h1 (hn i h3 h4).1
    have hzv : z ≠ v := hm_neN h1 hv
    refine cz_I_m ?_ (h05 z e h2)
    rw [oc z e h2, if_neg (hni 1 (by decide) (by decide)), if_neg hzv, if_neg (hni 2 (by decide) (by decide)), if_neg (hni 3 (by decide) (by decide)), if_neg (hni 4 (by decide) (by decide)), if_neg (hni 5 (by decide) (by decide)), if_neg (hni 6 (by decide) (by decide)), if_neg (hni 7 (by decide) (by decide)), if_neg (hni 8 (by decide) (by decide)), if_neg (hni 9 (by decide) (by decide)), if_neg (hni 10 (by decide) (by decide))]
  have hqn : ∀ i, 1 ≤ i → i ≤ 10 → q ≠ N i := fun i h3 h4 h5 => by
    have h6 := (hn i h3 h4).1
    rw [← h5, e1, hm_up_s] at h6; cases h6
  have hqv : q ≠ v := fun h5 => by rw [← h5, e1, hm_up_s] at hv; cases hv
  have oq : O q = 0 := by
    rw [oc q _ n0, if_neg (hqn 1 (by decide) (by decide)), if_neg hqv, if_neg (hqn 2 (by decide) (by decide)), if_neg (hqn 3 (by decide) (by decide)), if_neg (hqn 4 (by decide) (by decide)), if_neg (hqn 5 (by decide) (by decide)), if_neg (hqn 6 (by decide) (by decide)), if_neg (hqn 7 (by decide) (by decide)), if_neg (hqn 8 (by decide) (by decide)), if_neg (hqn 9 (by decide) (by decide)), if_neg (hqn 10 (by decide) (by decide))]
  have b : ∀ i, 1 ≤ i → i ≤ 10 → B ≤ N i := fun i h1 h2 => (hn i h1 h2).2
  have al0 : ∀ ci a, al_D B D G M2 ci a (G 0) [] → al_D B D G M5 ci a (G 0) [] := fun ci a h => h.kept (fun e he => h05 _ _ he) (fun e he => h05 _ _ he) (fun x hx => absurd hx List.not_mem_nil)
  refine ⟨O, [], fun _ => none, fun _ => false, [], [], [], (fun _ => false, fun _ => 0, fun _ => false), fun _ => false, fun _ => false, I, A, L, fun _ => 0, ?_, ?_, ?_, ?_, ?_, ?_, ?_, ?_, hS, ⟨?_, ?_⟩, ⟨fun d hd => absurd hd List.not_mem_nil, fun k e he => by cases he⟩, fun k _ => ⟨rfl, rfl⟩⟩
  · refine ⟨?_, hI0 _ _ g0, tx_mono hI0 g1, tx_mono hI0 g2, tx_mono hI0 g3, tx_mono hI0 g4⟩
    rw [hN0]; exact cz_I_m oq (h05 _ _ n0)
  · exact ⟨v, ⟨mm, f, ml, h05 _ _ s1, h05 _ _ s2, s3⟩, o1, ov, Nat.zero_le _⟩
  · exact ⟨fun _ => none, h05 _ _ n2, o2, b 2 (by decide) (by decide), fun k _ => Or.inl ⟨rfl, rfl⟩⟩
  · exact ⟨h05 _ _ n3, o3, b 3 (by decide) (by decide)⟩
  · exact ⟨G 0, [], al0 _ _ n4, o4, b 4 (by decide) (by decide), Or.inl rfl, rfl, fun j x b hj => by simp at hj, Nat.zero_le _⟩
  · exact ⟨G 3, G 0, [], h05 _ _ n5, o5, b 5 (by decide) (by decide), tx_mono hI0 g3, al0 _ _ n6, o6, b 6 (by decide) (by decide), Or.inl rfl, rfl, fun j x h hj => by simp at hj, Nat.zero_le _⟩
  · refine ⟨?_, h05 _ _ n8, h05 _ _ n9, h05 _ _ n10, ⟨o7, o8, o9, o10⟩, b 7 (by decide) (by decide), b 8 (by decide) (by decide), b 9 (by decide) (by decide), b 10 (by decide) (by decide)⟩
    rw [show qu_n (fun _ => false) = 0 from qu_0]; exact h05 _ _ n7
  · obtain ⟨p0, p1, p3, p4, p5, p7, p8, p9, p10, p11, p14, p15, p16, p17, p19, p20, p21, po, pb⟩ := id hD
    have hpo : ∀ k ∈ mo_ks, ∀ e, M4 (P k) = some e → O (P k) = 700 + k := fun k hk9 e he => by
      rw [hO]
      show (if P k = q3 then _ else _) = _
      rw [if_neg (hz3 _ _ he), po k hk9, if_pos (by omega)]
    refine ⟨hM5 _ _ p0, hM5 _ _ p1, hM5 _ _ p3, hM5 _ _ p4, hM5 _ _ p5, hM5 _ _ p7, hM5 _ _ p8, hM5 _ _ p9, hM5 _ _ p10, hM5 _ _ p11, hM5 _ _ p14, hM5 _ _ p15, hM5 _ _ p16, hM5 _ _ p17, hM5 _ _ p19, hM5 _ _ p20, hM5 _ _ p21, fun k hk9 => ?_, pb⟩
    simp only [mo_ks, List.mem_cons, List.not_mem_nil, or_false] at hk9
    rcases hk9 with rfl | rfl | rfl | rfl | rfl | rfl | rfl | rfl | rfl | rfl | rfl | rfl | rfl | rfl | rfl | rfl | rfl
    · exact hpo 0 (by decide) _ p0
    · exact hpo 1 (by decide) _ p1
    · exact hpo 3 (by decide) _ p3
    · exact hpo 4 (by decide) _ p4
    · exact hpo 5 (by decide) _ p5
    · exact hpo 7 (by decide) _ p7
    · exact hpo 8 (by decide) _ p8
    · exact hpo 9 (by decide) _ p9
    · exact hpo 10 (by decide) _ p10
    · exact hpo 11 (by decide) _ p11
    · exact hpo 14 (by decide) _ p14
    · exact hpo 15 (by decide) _ p15
    · exact hpo 16 (by decide) _ p16
    · exact hpo 17 (by decide) _ p17
    · exact hpo 19 (by decide) _ p19
    · exact hpo 20 (by decide) _ p20
    · exact hpo 21 (by decide) _ p21
  · rw [e5]; exact hm_up_s
  · rw [hO]; exact if_pos rfl

theorem tt_1 {w : Cond} (i : Nat) (h : tables_1_1[i]? = some w) : w ∈ lw_tbl := List.mem_append_right _ (List.mem_append_left _ (List.mem_of_getElem? h))
theorem tt_2 {w : Cond} (i : Nat) (h : tables_1_2[i]? = some w) : w ∈ lw_tbl := List.mem_append_right _ (List.mem_append_right _ (List.mem_append_left _ (List.mem_of_getElem? h)))
theorem tt_3 {w : Cond} (i : Nat) (h : tables_1_3[i]? = some w) : w ∈ lw_tbl := List.mem_append_right _ (List.mem_append_right _ (List.mem_append_right _ (List.mem_append_left _ (List.mem_of_getElem? h))))
theorem tt_4 {w : Cond} (i : Nat) (h : tables_1_4[i]? = some w) : w ∈ lw_tbl := List.mem_append_right _ (List.mem_append_right _ (List.mem_append_right _ (List.mem_append_right _ (List.mem_append_left _ (List.mem_of_getElem? h)))))
theorem tt_5 {w : Cond} (i : Nat) (h : tables_1_5[i]? = some w) : w ∈ lw_tbl := List.mem_append_right _ (List.mem_append_right _ (List.mem_append_right _ (List.mem_append_right _ (List.mem_append_right _ (List.mem_of_getElem? h)))))
theorem st_ts {s : State} {sb : Nat} (h : ∀ w ∈ lw_tbl, w.before #[Value.ref sb] s = true) : ∀ w ∈ tb_G, w.before #[Value.ref sb] s = true := fun w hw => by
  rcases List.mem_append.mp (List.mem_filter.mp hw).1 with hw | hw
  · simp only [tb_E, List.mem_cons, List.not_mem_nil, or_false] at hw
    rcases hw with rfl | rfl
    · exact hm_selP (n := 4) (h _ (tt_1 42 rfl)) (h _ (tt_1 190 rfl)) (h _ (tt_1 191 rfl)) (h _ (tt_5 202 rfl))
    · exact hm_selP (n := 4) (h _ (tt_1 42 rfl)) (h _ (tt_1 194 rfl)) (h _ (tt_1 195 rfl)) (h _ (tt_5 203 rfl))
  · exact h w hw
theorem st_eqR {args : Array Value} {s : State} {t u : Term} {a b : Nat} (h : (Cond.eq t u).before args s = true) (ht : t.eval args s none [] s = some (.ref a)) (hu : u.eval args s none [] s = some (.ref b)) : a = b := by
  simp only [Cond.before, Cond.holds, Cond.value, ht, hu] at h
  simpa using h
theorem st_nk {s : State} {H : Heap} {a b : Nat} {ca cb : Cell} {ka kb : Class} (ha : H[a]? = some ca) (hb : H[b]? = some cb) (h1 : s.vm.classes[ca.cls]? = some ka) (h2 : s.vm.classes[cb.cls]? = some kb) (hk : ka.kind ≠ kb.kind) : a ≠ b := fun e => by
  subst e
  cases ha.symm.trans hb
  cases h1.symm.trans h2
  exact hk rfl
theorem st_lst {args : Array Value} {s : State} {C n d : String} {A : Nat → Prop} (hl : (Cond.laysStatic C n d).before args s = true) (hA : ∀ a : Nat, a < s.heap.size → ¬ A a) : ev_L C n d A s s.heap := by
  obtain ⟨c, k, i, f, a, cell, hc, hi, hst, ha, hcell, hs, hcls, hlt, hty⟩ := Cond.laysStatic_spec hl
  exact ⟨c, k, i, f, a, cell, hc, hi, hst, ha, hcell, hs, hcls, hlt, hty, hA a (Array.getElem?_eq_some_iff.mp hcell).1⟩

theorem st_nc {A : Array Value} {C T : String} {s : State} (h : (Cond.not (.castable C T)).before A s = true) : va_Nw (.not (.castable C T)) s := by
  simp only [va_Nw, Cond.before, Cond.holds, Cond.value] at h ⊢
  exact h
set_option maxHeartbeats 40000000 in
set_option maxRecDepth 100000 in
theorem st_E {s : State} {sb : Nat} (hts0 : ∀ w ∈ lw_tbl, w.before #[Value.ref sb] s = true) (hgv : (Jvm.Cond.and given_1 narrow_1).before #[Value.ref sb] s = true) : ∃ (D : va_G) (G : Nat → Nat) (M0 : hm_M), ev_E s.heap.size D G s ∧ hm_P D cl_W M0 s.heap ∧ (M0 (G 0) = some (.inl (D.1 104, 0, .inr (.inr (.inr (.inr (fun _ => none))))))) ∧ tx_S D M0 (G 1) [97, 108, 108] ∧ tx_S D M0 (G 2) [97, 110, 121] ∧ tx_S D M0 (G 3) [] ∧ tx_S D M0 (G 4) [] := by
  have hts := st_ts hts0
  have hs := flat_of_before _ hgv
  have hA : ∀ a : Nat, a < s.heap.size → ¬ hm_A s.heap.size a := fun a h1 h2 => absurd h2 (Nat.not_le.mpr h1)
  obtain ⟨c0, i0, k0⟩ := u_known (C := rn_RD) (T := ft_RD) (N := 6) (n := 6) hts fi_RD (hts _ tw_69)
  obtain ⟨c1, i1, k1⟩ := u_known (C := rn_BI) (T := ft_BI) (N := 4) (n := 4) hts fi_BI (hts _ tw_866)
  obtain ⟨c2, i2, k2⟩ := u_known (C := rn_EX) (T := ft_EX) (N := 2) (n := 2) hts fi_EX (hts _ tw_785)
  obtain ⟨c3, i3, k3⟩ := u_known (C := rn_HD) (T := ft_HD) (N := 2) (n := 2) hts fi_HD (hts _ tw_684)
  obtain ⟨c4, i4, k4⟩ := u_known (C := rn_MG) (T := ft_MG) (N := 2) (n := 2) hts fi_MG (hts _ tw_139)
  obtain ⟨c5, i5, k5⟩ := u_known (C := rn_RT) (T := ft_RT) (N := 5) (n := 5) hts fi_RT (hts _ tw_158)
  obtain ⟨c6, i6, k6⟩ := u_known (C := rn_MO) (T := ft_MO) (N := 22) (n := 22) hts fi_MO (hts _ tw_981)
  obtain ⟨c7, i7, k7⟩ := u_known (C := rn_SB) (T := ft_SB) (N := 4) (n := 4) hts fi_SB (hts _ tw_77)
  obtain ⟨c8, i8, k8⟩ := u_known (C := rn_ST) (T := ft_ST) (N := 2) (n := 4) hts fi_ST (hts _ tw_371)
  obtain ⟨c9, i9, k9⟩ := u_known (C := rn_AL) (T := ft_AL) (N := 3) (n := 3) hts fi_AL (hts _ tw_112)
  obtain ⟨cB, kB, pB, fB, hB, qB⟩ := Cond.arrayClass_spec (hts _ tw_108)
  obtain ⟨cZ, kZ, pZ, fZ, hZ, qZ⟩ := Cond.arrayClass_spec (hts _ tw_137)
  obtain ⟨cI, kI, pI, fI, hI, qI⟩ := Cond.arrayClass_spec (hts _ tw_183)
  obtain ⟨cJ, kJ, pJ, fJ, hJ, qJ⟩ := Cond.arrayClass_spec (hts _ tw_1053)
  obtain ⟨pO, cO, kO, gO, -, hO, qO, fO⟩ := Cond.arrayOver_spec (hts0 _ (tt_3 226 rfl))
  obtain ⟨pX, cX, kX, gX, -, hX, qX, fX⟩ := Cond.arrayOver_spec (hts0 _ (tt_1 75 rfl))
  obtain ⟨adK, adV, hvs, hev⟩ := vk_Sof (args := #[Value.ref sb]) (s := s) (N := 3) (tm := fun i => match i with | 0 => Term.string "RouteDesk$HeaderText" 22 | 1 => Term.string "RouteDesk$HeaderText" 28 | _ => Term.string "RouteDesk$Message" 7) (len := [3, 3, 0]) (byt := [[97, 108, 108], [97, 110, 121], []]) (A := hm_A s.heap.size)
    (fun i hi => by
      match i, hi with
      | 0, _ => decide
      | 1, _ => decide
      | 2, _ => decide
      | i + 3, hi => exact absurd hi (by omega))
    (fun i hi => by
      match i, hi with
      | 0, _ => exact hs _ (by decide +kernel)
      | 1, _ => exact hs _ (by decide +kernel)
      | 2, _ => exact hs _ (by decide +kernel)
      | i + 3, hi => exact absurd hi (by omega))
    (fun i hi => by
      match i, hi with
      | 0, _ => exact hs _ (by decide +kernel)
      | 1, _ => exact hs _ (by decide +kernel)
      | 2, _ => exact hs _ (by decide +kernel)
      | i + 3, hi => exact absurd hi (by omega))
    (fun i hi => by
      match i, hi with
      | 0, _ => exact hs _ (by decide +kernel)
      | 1, _ => exact hs _ (by decide +kernel)
      | 2, _ => exact hs _ (by decide +kernel)
      | i + 3, hi => exact absurd hi (by omega))
    (fun i hi => by
      match i, hi with
      | 0, _ => exact hs _ (by decide +kernel)
      | 1, _ => exact hs _ (by decide +kernel)
      | 2, _ => exact hs _ (by decide +kernel)
      | i + 3, hi => exact absurd hi (by omega))
    (fun i hi => by
      match i, hi with
      | 0, _ => 
        intro j hj
        match j, hj with
        | 0, _ => exact hs _ (by decide +kernel)
        | 1, _ => exact hs _ (by decide +kernel)
        | 2, _ => exact hs _ (by decide +kernel)
        | j + 3, hj => exact absurd hj (by show ¬ j + 3 < 3; omega)
      | 1, _ => 
        intro j hj
        match j, hj with
        | 0, _ => exact hs _ (by decide +kernel)
        | 1, _ => exact hs _ (by decide +kernel)
        | 2, _ => exact hs _ (by decide +kernel)
        | j + 3, hj => exact absurd hj (by show ¬ j + 3 < 3; omega)
      | 2, _ => 
        intro j hj
        match j, hj with
  
        | j + 0, hj => exact absurd hj (by show ¬ j + 0 < 0; omega)
      | i + 3, hi => exact absurd hi (by omega))
    (fun i j hi hj hij => by
      match i, j, hi, hj with
      | 0, 0, _, _ => exact absurd rfl hij
      | 0, 1, _, _ => exact Or.inl (hs _ (by decide +kernel))
      | 0, 2, _, _ => exact Or.inr (hs _ (by decide +kernel))
      | 1, 0, _, _ => exact Or.inr (hs _ (by decide +kernel))
      | 1, 1, _, _ => exact absurd rfl hij
      | 1, 2, _, _ => exact Or.inr (hs _ (by decide +kernel))
      | 2, 0, _, _ => exact Or.inl (hs _ (by decide +kernel))
      | 2, 1, _, _ => exact Or.inl (hs _ (by decide +kernel))
      | 2, 2, _, _ => exact absurd rfl hij
      | i + 3, _, hi, _ => exact absurd hi (by omega)
      | 0, j + 3, _, hj => exact absurd hj (by omega)
      | 1, j + 3, _, hj => exact absurd hj (by omega)
      | 2, j + 3, _, hj => exact absurd hj (by omega)) hA
  obtain ⟨⟨so0, s01, s02, s03, -⟩, ⟨cf0, kf0, fi0, ff0, cc0, x01, -, x02, x03, x04, -⟩, ⟨cg0, kg0, gi0, gg0, cd0, y01, -, y02, y03, y04, -⟩, ⟨vo0, v01, v02, v03, v04, v05, v06, -⟩⟩ := hvs.1 0 (by decide)
  have e0 := hev 0 (by decide)
  cases s01.symm.trans x02
  cases s01.symm.trans y02
  obtain ⟨⟨so1, s11, s12, s13, -⟩, ⟨cf1, kf1, fi1, ff1, cc1, x11, -, x12, x13, x14, -⟩, ⟨cg1, kg1, gi1, gg1, cd1, y11, -, y12, y13, y14, -⟩, ⟨vo1, v11, v12, v13, v14, v15, v16, -⟩⟩ := hvs.1 1 (by decide)
  have e1 := hev 1 (by decide)
  cases s11.symm.trans x12
  cases s11.symm.trans y12
  obtain ⟨⟨so2, s21, s22, s23, -⟩, ⟨cf2, kf2, fi2, ff2, cc2, x21, -, x22, x23, x24, -⟩, ⟨cg2, kg2, gi2, gg2, cd2, y21, -, y22, y23, y24, -⟩, ⟨vo2, v21, v22, v23, v24, v25, v26, -⟩⟩ := hvs.1 2 (by decide)
  have e2 := hev 2 (by decide)
  cases s21.symm.trans x22
  cases s21.symm.trans y22
  obtain ⟨z0, ez0, zo, z1, z2, z3, z4, z5, z6, -⟩ := va_Tof (args := #[Value.ref sb]) (s := s) (tm := Term.static "java/util/ArrayList" "DEFAULTCAPACITY_EMPTY_ELEMENTDATA" "[Ljava/lang/Object;") (ty := .object "java/lang/Object") (N := 0) (f := fun _ => .null) (A := hm_A s.heap.size) (by decide) (hs _ (by decide +kernel)) (va_eqt (hs _ (by decide +kernel))) (fun j hj => absurd hj (Nat.not_lt_zero _)) hA
  obtain ⟨z0b, zc, zo2, zk, ez2, zf, zh, zkk, zst, zcl, -⟩ := Cond.exactly_spec (args := #[Value.ref sb]) (first := s) (o := none) (s := s) (idx := []) (t := Term.static "java/util/ArrayList" "DEFAULTCAPACITY_EMPTY_ELEMENTDATA" "[Ljava/lang/Object;") (cls := "[Ljava/lang/Object;") (hs _ (by decide +kernel))
  cases ez0.symm.trans ez2
  cases z1.symm.trans zh
  obtain ⟨r4, -, -, -, er4, -⟩ := Cond.exactly_spec (args := #[Value.ref sb]) (first := s) (o := none) (s := s) (idx := []) (t := Term.string "java/lang/StringLatin1" 151) (cls := "java/lang/String") (hs _ (by decide +kernel))
  obtain ⟨r5, -, -, -, er5, -⟩ := Cond.exactly_spec (args := #[Value.ref sb]) (first := s) (o := none) (s := s) (idx := []) (t := Term.string "RouteDesk" 61) (cls := "java/lang/String") (hs _ (by decide +kernel))
  obtain ⟨r6, -, -, -, er6, -⟩ := Cond.exactly_spec (args := #[Value.ref sb]) (first := s) (o := none) (s := s) (idx := []) (t := Term.string "RouteDesk" 71) (cls := "java/lang/String") (hs _ (by decide +kernel))
  obtain ⟨r7, -, -, -, er7, -⟩ := Cond.exactly_spec (args := #[Value.ref sb]) (first := s) (o := none) (s := s) (idx := []) (t := Term.string "RouteDesk" 82) (cls := "java/lang/String") (hs _ (by decide +kernel))
  obtain ⟨r8, -, -, -, er8, -⟩ := Cond.exactly_spec (args := #[Value.ref sb]) (first := s) (o := none) (s := s) (idx := []) (t := Term.string "RouteDesk" 110) (cls := "java/lang/String") (hs _ (by decide +kernel))
  obtain ⟨r9, -, -, -, er9, -⟩ := Cond.exactly_spec (args := #[Value.ref sb]) (first := s) (o := none) (s := s) (idx := []) (t := Term.string "RouteDesk" 119) (cls := "java/lang/String") (hs _ (by decide +kernel))
  obtain ⟨r10, -, -, -, er10, -⟩ := Cond.exactly_spec (args := #[Value.ref sb]) (first := s) (o := none) (s := s) (idx := []) (t := Term.string "RouteDesk" 125) (cls := "java/lang/String") (hs _ (by decide +kernel))
  obtain ⟨r11, -, -, -, er11, -⟩ := Cond.exactly_spec (args := #[Value.ref sb]) (first := s) (o := none) (s := s) (idx := []) (t := Term.string "RouteDesk" 160) (cls := "java/lang/String") (hs _ (by decide +kernel))
  obtain ⟨r12, -, -, -, er12, -⟩ := Cond.exactly_spec (args := #[Value.ref sb]) (first := s) (o := none) (s := s) (idx := []) (t := Term.string "RouteDesk" 184) (cls := "java/lang/String") (hs _ (by decide +kernel))
  have hr4 : adK 2 = r4 := st_eqR (hs (Cond.eq (Term.string "RouteDesk$Message" 7) (Term.string "java/lang/StringLatin1" 151)) (by decide +kernel)) e2 er4
  obtain ⟨mi, hmi⟩ := va_Mi.of (hs (Cond.isRef (Term.mirror "[Ljava/lang/Object;")) (by decide +kernel))
  obtain ⟨D, hD⟩ : ∃ D : va_G, D = (fun k => match k with | 0 => c0 | 1 => c1 | 2 => c2 | 3 => c3 | 4 => c4 | 5 => c5 | 6 => c6 | 7 => c7 | 8 => c8 | 9 => c9 | 100 => cB | 101 => cZ | 102 => cI | 103 => cJ | 104 => cO | 105 => cX | 111 => vo0.cls | 112 => vo1.cls | 113 => vo2.cls | 114 => vo2.cls | _ => c0, fun k => match k with | 0 => i0 | 1 => i1 | 2 => i2 | 3 => i3 | 4 => i4 | 5 => i5 | 6 => i6 | 7 => i7 | 8 => i8 | 9 => i9 | _ => fun _ => s.heap.size) := ⟨_, rfl⟩
  have d0 : D.1 0 = c0 := by rw [hD]; rfl
  have d1 : D.1 1 = c1 := by rw [hD]; rfl
  have d2 : D.1 2 = c2 := by rw [hD]; rfl
  have d3 : D.1 3 = c3 := by rw [hD]; rfl
  have d4 : D.1 4 = c4 := by rw [hD]; rfl
  have d5 : D.1 5 = c5 := by rw [hD]; rfl
  have d6 : D.1 6 = c6 := by rw [hD]; rfl
  have d7 : D.1 7 = c7 := by rw [hD]; rfl
  have d8 : D.1 8 = c8 := by rw [hD]; rfl
  have d9 : D.1 9 = c9 := by rw [hD]; rfl
  have d100 : D.1 100 = cB := by rw [hD]; rfl
  have d101 : D.1 101 = cZ := by rw [hD]; rfl
  have d102 : D.1 102 = cI := by rw [hD]; rfl
  have d103 : D.1 103 = cJ := by rw [hD]; rfl
  have d104 : D.1 104 = cO := by rw [hD]; rfl
  have d105 : D.1 105 = cX := by rw [hD]; rfl
  have d111 : D.1 111 = vo0.cls := by rw [hD]; rfl
  have d112 : D.1 112 = vo1.cls := by rw [hD]; rfl
  have d113 : D.1 113 = vo2.cls := by rw [hD]; rfl
  have d114 : D.1 114 = vo2.cls := by rw [hD]; rfl
  have m0 : D.2 0 = i0 := by rw [hD]; rfl
  have m1 : D.2 1 = i1 := by rw [hD]; rfl
  have m2 : D.2 2 = i2 := by rw [hD]; rfl
  have m3 : D.2 3 = i3 := by rw [hD]; rfl
  have m4 : D.2 4 = i4 := by rw [hD]; rfl
  have m5 : D.2 5 = i5 := by rw [hD]; rfl
  have m6 : D.2 6 = i6 := by rw [hD]; rfl
  have m7 : D.2 7 = i7 := by rw [hD]; rfl
  have m8 : D.2 8 = i8 := by rw [hD]; rfl
  have m9 : D.2 9 = i9 := by rw [hD]; rfl
  have m900 : D.2 900 0 = s.heap.size := by rw [hD]; rfl
  obtain ⟨G, hG⟩ : ∃ G : Nat → Nat, G = fun k => match k with | 0 => z0 | 1 => adK 0 | 2 => adK 1 | 3 => adK 2 | 4 => r4 | 5 => r5 | 6 => r6 | 7 => r7 | 8 => r8 | 9 => r9 | 10 => r10 | 11 => r11 | 12 => r12 | 20 => mi | _ => 0 := ⟨_, rfl⟩
  have g0 : G 0 = z0 := by rw [hG]; rfl
  have g1 : G 1 = adK 0 := by rw [hG]; rfl
  have g2 : G 2 = adK 1 := by rw [hG]; rfl
  have g3 : G 3 = adK 2 := by rw [hG]; rfl
  have g4 : G 4 = r4 := by rw [hG]; rfl
  have g5 : G 5 = r5 := by rw [hG]; rfl
  have g6 : G 6 = r6 := by rw [hG]; rfl
  have g7 : G 7 = r7 := by rw [hG]; rfl
  have g8 : G 8 = r8 := by rw [hG]; rfl
  have g9 : G 9 = r9 := by rw [hG]; rfl
  have g10 : G 10 = r10 := by rw [hG]; rfl
  have g11 : G 11 = r11 := by rw [hG]; rfl
  have g12 : G 12 = r12 := by rw [hG]; rfl
  have g20 : G 20 = mi := by rw [hG]; rfl
  have aB : ArrOfT s (D.1 100) (.byte) := by rw [d100]; exact fun N z => ⟨(fun k h => by cases h), kB, hB, pB, qB⟩
  have aZ : ArrOfT s (D.1 101) (.boolean) := by rw [d101]; exact fun N z => ⟨(fun k h => by cases h), kZ, hZ, pZ, qZ⟩
  have aI : ArrOfT s (D.1 102) (.int) := by rw [d102]; exact fun N z => ⟨(fun k h => by cases h), kI, hI, pI, qI⟩
  have aJ : ArrOfT s (D.1 103) (.long) := by rw [d103]; exact fun N z => ⟨(fun k h => by cases h), kJ, hJ, pJ, qJ⟩
  have aO : ArrOfT s (D.1 104) (.object "java/lang/Object") := by rw [d104]; exact fun N z => ⟨(fun k h => by cases h), kO, hO, pO, qO⟩
  have aX : ArrOfT s (D.1 105) (.object "RouteDesk$Exchange") := by rw [d105]; exact fun N z => ⟨(fun k h => by cases h), kX, hX, pX, qX⟩
  have bB : va_RA s (D.1 100) (.byte) := by rw [d100]; exact fB
  have bZ : va_RA s (D.1 101) (.boolean) := by rw [d101]; exact fZ
  have bI : va_RA s (D.1 102) (.int) := by rw [d102]; exact fI
  have bJ : va_RA s (D.1 103) (.long) := by rw [d103]; exact fJ
  have bO : va_RA s (D.1 104) (.object "java/lang/Object") := by rw [d104]; exact ⟨kO, pO, hO, qO, gO, fO⟩
  have bX : va_RA s (D.1 105) (.object "RouteDesk$Exchange") := by rw [d105]; exact ⟨kX, pX, hX, qX, gX, fX⟩
  have hcO : zo.cls = cO := by
    have h9 := va_nmO bO rfl (nm := "[Ljava/lang/Object;")
    rw [d104] at h9
    rw [zcl]; exact Option.some.inj (zf.symm.trans h9)
  have hK1 : va_K D cl_W (ev_ty D) s := by
    refine ⟨fun c q hq => ?_, fun k q hq => ?_⟩
    · match c, hq with
      | 0, hq => cases hq; rw [d0, m0]; exact k0
      | 1, hq => cases hq; rw [d1, m1]; exact k1
      | 2, hq => cases hq; rw [d2, m2]; exact k2
      | 3, hq => cases hq; rw [d3, m3]; exact k3
      | 4, hq => cases hq; rw [d4, m4]; exact k4
      | 5, hq => cases hq; rw [d5, m5]; exact k5
      | 6, hq => cases hq; rw [d6, m6]; exact k6
      | 7, hq => cases hq; rw [d7, m7]; exact k7
      | 8, hq => cases hq; rw [d8, m8]; exact k8
      | 9, hq => cases hq; rw [d9, m9]; exact k9
      | c + 10, hq => simp [cl_W] at hq
    · match k, hq with
      | 0, hq => cases hq; exact ⟨aB, bB⟩
      | 1, hq => cases hq; exact ⟨aZ, bZ⟩
      | 2, hq => cases hq; exact ⟨aI, bI⟩
      | 3, hq => cases hq; exact ⟨aJ, bJ⟩
      | 4, hq => cases hq; exact ⟨aO, bO⟩
      | 5, hq => cases hq; exact ⟨aX, bX⟩
      | k + 6, hq => simp [ev_ty] at hq
  have hKK : hm_K s.heap.size D cl_W (ev_ty D) s := by
    refine ⟨hK1, by rw [m900]; exact Nat.le_refl _, aB, fun i h1 h2 => ?_⟩
    rcases (show i = 111 ∨ i = 112 ∨ i = 113 ∨ i = 114 by omega) with rfl | rfl | rfl | rfl
    · rw [d111]; exact fun N z => ⟨(fun k h => by cases h), v02.2⟩
    · rw [d112]; exact fun N z => ⟨(fun k h => by cases h), v12.2⟩
    · rw [d113]; exact fun N z => ⟨(fun k h => by cases h), v22.2⟩
    · rw [d114]; exact fun N z => ⟨(fun k h => by cases h), v22.2⟩
  obtain ⟨M0, hM0⟩ : ∃ M0 : hm_M, M0 = fun q => if q = z0 then some (.inl (D.1 104, 0, .inr (.inr (.inr (.inr (fun _ => none)))))) else if q = adK 0 then some (.inr (8, [.ref (adV 0), .int (nI 0)])) else if q = adK 1 then some (.inr (8, [.ref (adV 1), .int (nI 0)])) else if q = adK 2 then some (.inr (8, [.ref (adV 2), .int (nI 0)])) else if q = adV 0 then some (.inl (D.1 100, 3, .inl (fun j => nI (([97, 108, 108] : List Nat).getD j 0)))) else if q = adV 1 then some (.inl (D.1 100, 3, .inl (fun j => nI (([97, 110, 121] : List Nat).getD j 0)))) else if q = adV 2 then some (.inl (D.1 100, 0, .inl (fun j => nI (([] : List Nat).getD j 0)))) else none := ⟨_, rfl⟩
  have sc0 : so0.cls = c8 := Option.some.inj (s03.symm.trans k8.2.1)
  have sc1 : so1.cls = c8 := Option.some.inj (s13.symm.trans k8.2.1)
  have sc2 : so2.cls = c8 := Option.some.inj (s23.symm.trans k8.2.1)
  obtain ⟨-, k8c, k8h, k8k⟩ := id k8.2
  obtain ⟨-, vk0, vh0, vp0, vq0⟩ := id v02
  obtain ⟨-, vk1, vh1, vp1, vq1⟩ := id v12
  obtain ⟨-, vk2, vh2, vp2, vq2⟩ := id v22
  have nv01 : adV 0 ≠ adV 1 := fun h9 => by
    have h1 := v01
    rw [h9] at h1
    cases h1.symm.trans v11
    have h2 := v06 1 (by decide)
    have h3 := v16 1 (by decide)
    rw [h2] at h3
    exact absurd h3 (by decide)
  have nv02 : adV 0 ≠ adV 2 := fun h9 => by
    have h1 := v01
    rw [h9] at h1
    cases h1.symm.trans v21
    have h2 := v05.symm.trans v25
    exact absurd h2 (by decide)
  have nv12 : adV 1 ≠ adV 2 := fun h9 => by
    have h1 := v11
    rw [h9] at h1
    cases h1.symm.trans v21
    have h2 := v15.symm.trans v25
    exact absurd h2 (by decide)
  have mm0 : M0 (z0) = some (.inl (D.1 104, 0, .inr (.inr (.inr (.inr (fun _ => none)))))) := by
    rw [hM0]
    show (if z0 = z0 then _ else _) = _
    rw [if_pos rfl]
  have mm1 : M0 (adK 0) = some (.inr (8, [.ref (adV 0), .int (nI 0)])) := by
    rw [hM0]
    show (if adK 0 = z0 then _ else _) = _
    rw [if_neg (st_nk s01 z1 (by rw [sc0]; exact k8h) (by rw [hcO]; exact hO) (by rw [k8k, qO]; intro h9; cases h9)), if_pos rfl]
  have mm2 : M0 (adK 1) = some (.inr (8, [.ref (adV 1), .int (nI 0)])) := by
    rw [hM0]
    show (if adK 1 = z0 then _ else _) = _
    rw [if_neg (st_nk s11 z1 (by rw [sc1]; exact k8h) (by rw [hcO]; exact hO) (by rw [k8k, qO]; intro h9; cases h9)), if_neg (fun h9 => absurd (hvs.2 1 0 (by decide) (by decide) h9) (by decide)), if_pos rfl]
  have mm3 : M0 (adK 2) = some (.inr (8, [.ref (adV 2), .int (nI 0)])) := by
    rw [hM0]
    show (if adK 2 = z0 then _ else _) = _
    rw [if_neg (st_nk s21 z1 (by rw [sc2]; exact k8h) (by rw [hcO]; exact hO) (by rw [k8k, qO]; intro h9; cases h9)), if_neg (fun h9 => absurd (hvs.2 2 0 (by decide) (by decide) h9) (by decide)), if_neg (fun h9 => absurd (hvs.2 2 1 (by decide) (by decide) h9) (by decide)), if_pos rfl]
  have mm4 : M0 (adV 0) = some (.inl (D.1 100, 3, .inl (fun j => nI (([97, 108, 108] : List Nat).getD j 0)))) := by
    rw [hM0]
    show (if adV 0 = z0 then _ else _) = _
    rw [if_neg (st_nk v01 z1 vh0 (by rw [hcO]; exact hO) (by rw [vq0, qO]; intro h9; cases h9)), if_neg (st_nk v01 s01 vh0 (by rw [sc0]; exact k8h) (by rw [vq0, k8k]; intro h9; cases h9)), if_neg (st_nk v01 s11 vh0 (by rw [sc1]; exact k8h) (by rw [vq0, k8k]; intro h9; cases h9)), if_neg (st_nk v01 s21 vh0 (by rw [sc2]; exact k8h) (by rw [vq0, k8k]; intro h9; cases h9)), if_pos rfl]
  have mm5 : M0 (adV 1) = some (.inl (D.1 100, 3, .inl (fun j => nI (([97, 110, 121] : List Nat).getD j 0)))) := by
    rw [hM0]
    show (if adV 1 = z0 then _ else _) = _
    rw [if_neg (st_nk v11 z1 vh1 (by rw [hcO]; exact hO) (by rw [vq1, qO]; intro h9; cases h9)), if_neg (st_nk v11 s01 vh1 (by rw [sc0]; exact k8h) (by rw [vq1, k8k]; intro h9; cases h9)), if_neg (st_nk v11 s11 vh1 (by rw [sc1]; exact k8h) (by rw [vq1, k8k]; intro h9; cases h9)), if_neg (st_nk v11 s21 vh1 (by rw [sc2]; exact k8h) (by rw [vq1, k8k]; intro h9; cases h9)), if_neg (Ne.symm nv01), if_pos rfl]
  have mm6 : M0 (adV 2) = some (.inl (D.1 100, 0, .inl (fun j => nI (([] : List Nat).getD j 0)))) := by
    rw [hM0]
    show (if adV 2 = z0 then _ else _) = _
    rw [if_neg (st_nk v21 z1 vh2 (by rw [hcO]; exact hO) (by rw [vq2, qO]; intro h9; cases h9)), if_neg (st_nk v21 s01 vh2 (by rw [sc0]; exact k8h) (by rw [vq2, k8k]; intro h9; cases h9)), if_neg (st_nk v21 s11 vh2 (by rw [sc1]; exact k8h) (by rw [vq2, k8k]; intro h9; cases h9)), if_neg (st_nk v21 s21 vh2 (by rw [sc2]; exact k8h) (by rw [vq2, k8k]; intro h9; cases h9)), if_neg (Ne.symm nv02), if_neg (Ne.symm nv12), if_pos rfl]
  have wk0 : hm_at D cl_W (z0, .inl (D.1 104, 0, .inr (.inr (.inr (.inr (fun _ => none)))))) s.heap := Or.inr ⟨by rw [m900]; exact (Array.getElem?_eq_some_iff.mp z1).1, ⟨zo, z1, Or.inl (hcO.trans d104.symm), ⟨by rw [vp_sz]; exact Nat.zero_le _, by rw [vp_sz]; exact z5, fun j hj => by rw [vp_sz] at hj; exact absurd hj (Nat.not_lt_zero _)⟩, z3, z2.1⟩⟩
  have wk1 : hm_at D cl_W (adK 0, .inr (8, [.ref (adV 0), .int (nI 0)])) s.heap := Or.inr ⟨by rw [m900]; exact (Array.getElem?_eq_some_iff.mp s01).1, ⟨(rn_ST, ft_ST, 2), rfl, so0, s01, by rw [d8]; exact sc0, ⟨x03, fun q h9 => by rw [h9] at s02; cases s02⟩, fun j hj => by
      rw [m8]
      match j, hj with
      | 0, _ =>
        obtain ⟨a1, a2, a3, a4, h1, h2⟩ := k8.1 0 (by decide)
        cases h1.symm.trans y01
        rw [← h2]; exact y04
      | 1, _ =>
        obtain ⟨a1, a2, a3, a4, h1, h2⟩ := k8.1 1 (by decide)
        cases h1.symm.trans x01
        rw [← h2]; exact x04
      | j + 2, hj => exact absurd hj (by show ¬ j + 2 < 2; omega)⟩⟩
  have wk2 : hm_at D cl_W (adK 1, .inr (8, [.ref (adV 1), .int (nI 0)])) s.heap := Or.inr ⟨by rw [m900]; exact (Array.getElem?_eq_some_iff.mp s11).1, ⟨(rn_ST, ft_ST, 2), rfl, so1, s11, by rw [d8]; exact sc1, ⟨x13, fun q h9 => by rw [h9] at s12; cases s12⟩, fun j hj => by
      rw [m8]
      match j, hj with
      | 0, _ =>
        obtain ⟨a1, a2, a3, a4, h1, h2⟩ := k8.1 0 (by decide)
        cases h1.symm.trans y11
        rw [← h2]; exact y14
      | 1, _ =>
        obtain ⟨a1, a2, a3, a4, h1, h2⟩ := k8.1 1 (by decide)
        cases h1.symm.trans x11
        rw [← h2]; exact x14
      | j + 2, hj => exact absurd hj (by show ¬ j + 2 < 2; omega)⟩⟩
  have wk3 : hm_at D cl_W (adK 2, .inr (8, [.ref (adV 2), .int (nI 0)])) s.heap := Or.inr ⟨by rw [m900]; exact (Array.getElem?_eq_some_iff.mp s21).1, ⟨(rn_ST, ft_ST, 2), rfl, so2, s21, by rw [d8]; exact sc2, ⟨x23, fun q h9 => by rw [h9] at s22; cases s22⟩, fun j hj => by
      rw [m8]
      match j, hj with
      | 0, _ =>
        obtain ⟨a1, a2, a3, a4, h1, h2⟩ := k8.1 0 (by decide)
        cases h1.symm.trans y21
        rw [← h2]; exact y24
      | 1, _ =>
        obtain ⟨a1, a2, a3, a4, h1, h2⟩ := k8.1 1 (by decide)
        cases h1.symm.trans x21
        rw [← h2]; exact x24
      | j + 2, hj => exact absurd hj (by show ¬ j + 2 < 2; omega)⟩⟩
  have wk4 : hm_at D cl_W (adV 0, .inl (D.1 100, 3, .inl (fun j => nI (([97, 108, 108] : List Nat).getD j 0)))) s.heap := Or.inr ⟨by rw [m900]; exact (Array.getElem?_eq_some_iff.mp v01).1, ⟨vo0, v01, Or.inr ⟨rfl, 111, by decide, by decide, d111.symm⟩, ⟨by rw [vp_sz]; exact v04, by rw [vp_sz]; exact v05, fun j hj => by
      rw [vp_sz] at hj
      have hj : j < 3 := hj
      rw [v06 j hj]
      symm
      refine (show (arrV _ _ _).slots[j]? = _ from arrV_read _ _ hj).trans ?_
      match j, hj with
      | 0, _ => rfl
      | 1, _ => rfl
      | 2, _ => rfl
      | j + 3, hj => exact absurd hj (by omega)⟩, v03, v02.1⟩⟩
  have wk5 : hm_at D cl_W (adV 1, .inl (D.1 100, 3, .inl (fun j => nI (([97, 110, 121] : List Nat).getD j 0)))) s.heap := Or.inr ⟨by rw [m900]; exact (Array.getElem?_eq_some_iff.mp v11).1, ⟨vo1, v11, Or.inr ⟨rfl, 112, by decide, by decide, d112.symm⟩, ⟨by rw [vp_sz]; exact v14, by rw [vp_sz]; exact v15, fun j hj => by
      rw [vp_sz] at hj
      have hj : j < 3 := hj
      rw [v16 j hj]
      symm
      refine (show (arrV _ _ _).slots[j]? = _ from arrV_read _ _ hj).trans ?_
      match j, hj with
      | 0, _ => rfl
      | 1, _ => rfl
      | 2, _ => rfl
      | j + 3, hj => exact absurd hj (by omega)⟩, v13, v12.1⟩⟩
  have wk6 : hm_at D cl_W (adV 2, .inl (D.1 100, 0, .inl (fun j => nI (([] : List Nat).getD j 0)))) s.heap := Or.inr ⟨by rw [m900]; exact (Array.getElem?_eq_some_iff.mp v21).1, ⟨vo2, v21, Or.inr ⟨rfl, 113, by decide, by decide, d113.symm⟩, ⟨by rw [vp_sz]; exact v24, by rw [vp_sz]; exact v25, fun j hj => by rw [vp_sz] at hj; exact absurd hj (Nat.not_lt_zero _)⟩, v23, v22.1⟩⟩
  have hP0 : hm_P D cl_W M0 s.heap := fun q y hy => by
    rw [hM0] at hy
    by_cases n0 : q = z0
    · have hy2 : M0 q = some y := by rw [hM0]; exact hy
      rw [n0, mm0] at hy2
      cases hy2
      rw [n0]
      exact wk0
    by_cases n1 : q = adK 0
    · have hy2 : M0 q = some y := by rw [hM0]; exact hy
      rw [n1, mm1] at hy2
      cases hy2
      rw [n1]
      exact wk1
    by_cases n2 : q = adK 1
    · have hy2 : M0 q = some y := by rw [hM0]; exact hy
      rw [n2, mm2] at hy2
      cases hy2
      rw [n2]
      exact wk2
    by_cases n3 : q = adK 2
    · have hy2 : M0 q = some y := by rw [hM0]; exact hy
      rw [n3, mm3] at hy2
      cases hy2
      rw [n3]
      exact wk3
    by_cases n4 : q = adV 0
    · have hy2 : M0 q = some y := by rw [hM0]; exact hy
      rw [n4, mm4] at hy2
      cases hy2
      rw [n4]
      exact wk4
    by_cases n5 : q = adV 1
    · have hy2 : M0 q = some y := by rw [hM0]; exact hy
      rw [n5, mm5] at hy2
      cases hy2
      rw [n5]
      exact wk5
    by_cases n6 : q = adV 2
    · have hy2 : M0 q = some y := by rw [hM0]; exact hy
      rw [n6, mm6] at hy2
      cases hy2
      rw [n6]
      exact wk6
    have hy : (if q = z0 then some (.inl (D.1 104, 0, .inr (.inr (.inr (.inr (fun _ => none)))))) else if q = adK 0 then some (.inr (8, [.ref (adV 0), .int (nI 0)])) else if q = adK 1 then some (.inr (8, [.ref (adV 1), .int (nI 0)])) else if q = adK 2 then some (.inr (8, [.ref (adV 2), .int (nI 0)])) else if q = adV 0 then some (.inl (D.1 100, 3, .inl (fun j => nI (([97, 108, 108] : List Nat).getD j 0)))) else if q = adV 1 then some (.inl (D.1 100, 3, .inl (fun j => nI (([97, 110, 121] : List Nat).getD j 0)))) else if q = adV 2 then some (.inl (D.1 100, 0, .inl (fun j => nI (([] : List Nat).getD j 0)))) else none : Option va_E) = some y := hy
    rw [if_neg n0, if_neg n1, if_neg n2, if_neg n3, if_neg n4, if_neg n5, if_neg n6] at hy
    cases hy
  have hnest : ∀ w ∈ ev_nest, va_Nw w s := List.forall_mem_cons.mpr ⟨va_Nw.of rfl (hts0 _ (tt_1 105 rfl)), List.forall_mem_cons.mpr ⟨va_Nw.of rfl (hts0 _ (tt_1 113 rfl)), List.forall_mem_cons.mpr ⟨va_Nw.of rfl (hts0 _ (tt_1 115 rfl)), List.forall_mem_cons.mpr ⟨va_Nw.of rfl (hts0 _ (tt_1 116 rfl)), List.forall_mem_cons.mpr ⟨va_Nw.of rfl (hts0 _ (tt_1 124 rfl)), List.forall_mem_cons.mpr ⟨va_Nw.of rfl (hts0 _ (tt_1 129 rfl)), List.forall_mem_cons.mpr ⟨va_Nw.of rfl (hts0 _ (tt_1 131 rfl)), List.forall_mem_cons.mpr ⟨va_Nw.of rfl (hts0 _ (tt_1 133 rfl)), List.forall_mem_cons.mpr ⟨va_Nw.of rfl (hts0 _ (tt_1 136 rfl)), List.forall_mem_cons.mpr ⟨va_Nw.of rfl (hts0 _ (tt_1 216 rfl)), List.forall_mem_cons.mpr ⟨va_Nw.of rfl (hts0 _ (tt_2 122 rfl)), List.forall_mem_cons.mpr ⟨va_Nw.of rfl (hts0 _ (tt_3 175 rfl)), List.forall_mem_cons.mpr ⟨va_Nw.of rfl (hts0 _ (tt_3 176 rfl)), List.forall_mem_cons.mpr ⟨va_Nw.of rfl (hts0 _ (tt_3 178 rfl)), List.forall_mem_cons.mpr ⟨va_Nw.of rfl (hts0 _ (tt_3 179 rfl)), List.forall_mem_cons.mpr ⟨va_Nw.of rfl (hts0 _ (tt_4 36 rfl)), List.forall_mem_cons.mpr ⟨va_Nw.of rfl (hts0 _ (tt_4 38 rfl)), List.forall_mem_cons.mpr ⟨va_Nw.of rfl (hts0 _ (tt_4 46 rfl)), List.forall_mem_cons.mpr ⟨va_Nw.of rfl (hts0 _ (tt_4 117 rfl)), List.forall_mem_cons.mpr ⟨va_Nw.of rfl (hts0 _ (tt_4 119 rfl)), List.forall_mem_cons.mpr ⟨va_Nw.of rfl (hts0 _ (tt_4 121 rfl)), List.forall_mem_cons.mpr ⟨va_Nw.of rfl (hts0 _ (tt_4 123 rfl)), List.forall_mem_cons.mpr ⟨va_Nw.of rfl (hts0 _ (tt_4 211 rfl)), List.forall_mem_cons.mpr ⟨va_Nw.of rfl (hts0 _ (tt_5 213 rfl)), List.forall_mem_cons.mpr ⟨va_Nw.of rfl (hts0 _ (tt_5 214 rfl)), List.forall_mem_cons.mpr ⟨va_Nw.of rfl (hts0 _ (tt_5 218 rfl)), List.forall_mem_cons.mpr ⟨va_Nw.of rfl (hts0 _ (tt_5 219 rfl)), List.forall_mem_cons.mpr ⟨va_Nw.of rfl (hts0 _ (tt_5 220 rfl)), List.forall_mem_cons.mpr ⟨va_Nw.of rfl (hts0 _ (tt_5 221 rfl)), List.forall_mem_cons.mpr ⟨va_Nw.of rfl (hts0 _ (tt_5 222 rfl)), List.forall_mem_cons.mpr ⟨va_Nw.of rfl (hts0 _ (tt_5 223 rfl)), List.forall_mem_cons.mpr ⟨va_Nw.of rfl (hts0 _ (tt_5 224 rfl)), List.forall_mem_cons.mpr ⟨va_Nw.of rfl (hts0 _ (tt_5 225 rfl)), List.forall_mem_cons.mpr ⟨st_nc (hs _ (by decide +kernel)), fun _ h => absurd h List.not_mem_nil⟩⟩⟩⟩⟩⟩⟩⟩⟩⟩⟩⟩⟩⟩⟩⟩⟩⟩⟩⟩⟩⟩⟩⟩⟩⟩⟩⟩⟩⟩⟩⟩⟩⟩
  have hstr : ∀ q ∈ ev_str, vk_R q.1 q.2.1 q.2.2.1 (G q.2.2.2) s := List.forall_mem_cons.mpr ⟨vk_R.of (A := #[Value.ref sb]) (hts0 _ (tt_4 98 rfl)) (by show _ = some (Value.ref (G 1)); rw [g1]; exact e0), List.forall_mem_cons.mpr ⟨vk_R.of (A := #[Value.ref sb]) (hts0 _ (tt_4 105 rfl)) (by show _ = some (Value.ref (G 2)); rw [g2]; exact e1), List.forall_mem_cons.mpr ⟨vk_R.of (A := #[Value.ref sb]) (hts0 _ (tt_1 109 rfl)) (by show _ = some (Value.ref (G 3)); rw [g3]; exact e2), List.forall_mem_cons.mpr ⟨vk_R.of (A := #[Value.ref sb]) (hts0 _ (tt_3 142 rfl)) (by show _ = some (Value.ref (G 4)); rw [g4]; exact er4), List.forall_mem_cons.mpr ⟨vk_R.of (A := #[Value.ref sb]) (hts0 _ (tt_4 28 rfl)) (by show _ = some (Value.ref (G 5)); rw [g5]; exact er5), List.forall_mem_cons.mpr ⟨vk_R.of (A := #[Value.ref sb]) (hts0 _ (tt_4 53 rfl)) (by show _ = some (Value.ref (G 6)); rw [g6]; exact er6), List.forall_mem_cons.mpr ⟨vk_R.of (A := #[Value.ref sb]) (hts0 _ (tt_4 67 rfl)) (by show _ = some (Value.ref (G 7)); rw [g7]; exact er7), List.forall_mem_cons.mpr ⟨vk_R.of (A := #[Value.ref sb]) (hts0 _ (tt_4 75 rfl)) (by show _ = some (Value.ref (G 8)); rw [g8]; exact er8), List.forall_mem_cons.mpr ⟨vk_R.of (A := #[Value.ref sb]) (hts0 _ (tt_4 109 rfl)) (by show _ = some (Value.ref (G 9)); rw [g9]; exact er9), List.forall_mem_cons.mpr ⟨vk_R.of (A := #[Value.ref sb]) (hts0 _ (tt_4 110 rfl)) (by show _ = some (Value.ref (G 10)); rw [g10]; exact er10), List.forall_mem_cons.mpr ⟨vk_R.of (A := #[Value.ref sb]) (hts0 _ (tt_4 141 rfl)) (by show _ = some (Value.ref (G 11)); rw [g11]; exact er11), List.forall_mem_cons.mpr ⟨vk_R.of (A := #[Value.ref sb]) (hts0 _ (tt_4 218 rfl)) (by show _ = some (Value.ref (G 12)); rw [g12]; exact er12), fun _ h => absurd h List.not_mem_nil⟩⟩⟩⟩⟩⟩⟩⟩⟩⟩⟩⟩
  refine ⟨D, G, M0, ⟨hKK, Nat.le_refl _, hnest, ⟨va_AO.of (hts0 _ (tt_3 226 rfl)), va_AO.of (hts0 _ (tt_1 75 rfl))⟩, va_Zof (hts0 _ (tt_1 51 rfl)) (hts _ tw_39) (va_eqi (hs _ (by decide +kernel))) hA, va_Zof (hts0 _ (tt_1 89 rfl)) (hts _ tw_43) (by rw [g0]; exact ez0) hA, va_Zqof (hts0 _ (tt_2 12 rfl)) (hts _ tw_52) (hs _ (by decide +kernel)) hA, hstr, ⟨by rw [g20]; exact hmi, va_Dc.of (hts0 _ (tt_5 217 rfl))⟩, ⟨va_Zqof (hts0 _ (tt_2 147 rfl)) (hts _ tw_53) (hs _ (by decide +kernel)) hA, st_lst (hts0 _ (tt_2 147 rfl)) hA⟩, ⟨va_Zqof (hts0 _ (tt_2 149 rfl)) (hts _ tw_53) (hs _ (by decide +kernel)) hA, st_lst (hts0 _ (tt_2 149 rfl)) hA⟩⟩, hP0, by rw [g0]; exact mm0, by rw [g1]; exact ⟨adV 0, _, mm1, mm4, fun j _ => rfl, by decide, by decide⟩, by rw [g2]; exact ⟨adV 1, _, mm2, mm5, fun j _ => rfl, by decide, by decide⟩, by rw [g3]; exact ⟨adV 2, _, mm3, mm6, fun j _ => rfl, by decide, by decide⟩, by rw [g4, ← hr4]; exact ⟨adV 2, _, mm3, mm6, fun j _ => rfl, by decide, by decide⟩⟩
