/-! what is asked, answered alike -/
theorem kin32 {x a b : Int32} {A B : Int64} (hA : A.toInt = a.toInt) (hB : B.toInt = b.toInt) : r_X7_in x.toInt64 A B = 0 ↔ (x < a ∨ b < x) := by
  rw [kin_iff]
  constructor
  · intro h
    by_cases c : A ≤ x.toInt64 ∧ x.toInt64 ≤ B
    · rw [if_pos c] at h; exact absurd h (by decide)
    · by_cases c1 : x < a
      · exact Or.inl c1
      · by_cases c2 : b < x
        · exact Or.inr c2
        · exfalso
          apply c
          have d1 : a.toInt ≤ x.toInt := Int32.le_iff_toInt_le.mp (Int32.not_lt.mp c1)
          have d2 : x.toInt ≤ b.toInt := Int32.le_iff_toInt_le.mp (Int32.not_lt.mp c2)
          exact ⟨Int64.le_iff_toInt_le.mpr (by rw [Int32.toInt_toInt64]; omega), Int64.le_iff_toInt_le.mpr (by rw [Int32.toInt_toInt64]; omega)⟩
  · intro h
    rw [if_neg]
    rintro ⟨h1, h2⟩
    have e1 := Int64.le_iff_toInt_le.mp h1
    have e2 := Int64.le_iff_toInt_le.mp h2
    rw [Int32.toInt_toInt64] at e1 e2
    rcases h with h | h
    · have := Int32.lt_iff_toInt_lt.mp h; omega
    · have := Int32.lt_iff_toInt_lt.mp h; omega
theorem kbr_in (x A B : Int64) : r_X7_in x A B = 0 ∨ r_X7_in x A B = 1 := by
  rw [kin_iff]; split
  · exact Or.inr rfl
  · exact Or.inl rfl
/-- a number in bounds is one of a few -/
theorem knum {x : Int32} {N : Nat} (hN : N < 2 ^ 31) (h0 : ¬ x < 0) (h1 : ¬ nI N < x) : ∃ v : Nat, v ≤ N ∧ x = nI v := by
  obtain ⟨j, hj, rfl⟩ := nI_of h0
  refine ⟨j, ?_, rfl⟩
  rcases Nat.lt_or_ge N j with q | q
  · exact absurd (nI_lt q hj) h1
  · exact q
theorem koneIf {x : Int32} (h : kb x) : r_X6_oneIf x = x := by
  rcases h with rfl | rfl <;> decide
theorem kz01 {p : Int32} (h0 : ¬ p = 0) (h1 : ¬ p = 1) : r_X6_isZeroOrOne p = 0 := by
  unfold r_X6_isZeroOrOne; rw [if_neg h0, if_neg h1]
theorem kz0 : ¬ r_X6_isZeroOrOne 0 = 0 := by decide
theorem kz1 : ¬ r_X6_isZeroOrOne 1 = 0 := by decide
theorem q_known_0 {gN : Nat → Nat → Int32} {pg : Nat → Int32} (h : rW gN pg) (p1 : Int32) : r_X6_known gN 0 p1 = r_X7_known_0 pg p1 := by
  obtain ⟨hE0, hE1, hY2, hY3, hc, hb, hp, hl⟩ := h
  unfold r_X6_known r_X7_known_0
  rw [if_neg kz0]
  by_cases c0 : p1 < 0
  · rw [if_pos c0, if_pos ((kin32 (a := 0) (b := 4) rfl rfl).mpr (Or.inl c0))]
  · rw [if_neg c0]
    by_cases c1 : 4 < p1
    · rw [if_neg (Int32.not_le.mpr c1), if_pos ((kin32 (a := 0) (b := 4) rfl rfl).mpr (Or.inr c1))]
    · rw [if_pos (Int32.not_lt.mp c1), if_neg (fun q => ((kin32 (a := 0) (b := 4) rfl rfl).mp q).elim c0 c1)]
      obtain ⟨v, hv, rfl⟩ := knum (N := 4) (by decide) c0 c1
      rw [nI_clamp (by omega)]
      unfold r_X2_numberOf
      obtain ⟨h0, h1, h2, h3, h4, h5, h6, h7, h8, h9, h10, h11, h12, h13, h14, h15⟩ := hE0
      rcases (show v = 0 ∨ v = 1 ∨ v = 2 ∨ v = 3 ∨ v = 4 by omega) with rfl | rfl | rfl | rfl | rfl
      · rw [if_pos rfl, if_pos (by decide)]; exact h11.symm
      · rw [if_pos rfl, if_neg (by decide), if_pos (by decide)]; exact h12.symm
      · rw [if_pos rfl, if_neg (by decide), if_neg (by decide), if_pos (by decide)]; exact h13.symm
      · rw [if_pos rfl, if_neg (by decide), if_neg (by decide), if_neg (by decide), if_pos (by decide)]; exact h14.symm
      · rw [if_pos rfl, if_neg (by decide), if_neg (by decide), if_neg (by decide), if_neg (by decide)]; exact (koneIf (hb.1.2.2.2)).trans h15.symm
theorem q_known_1 {gN : Nat → Nat → Int32} {pg : Nat → Int32} (h : rW gN pg) (p1 : Int32) : r_X6_known gN 1 p1 = r_X7_known_1 pg p1 := by
  obtain ⟨hE0, hE1, hY2, hY3, hc, hb, hp, hl⟩ := h
  unfold r_X6_known r_X7_known_1
  rw [if_neg kz1]
  by_cases c0 : p1 < 0
  · rw [if_pos c0, if_pos ((kin32 (a := 0) (b := 4) rfl rfl).mpr (Or.inl c0))]
  · rw [if_neg c0]
    by_cases c1 : 4 < p1
    · rw [if_neg (Int32.not_le.mpr c1), if_pos ((kin32 (a := 0) (b := 4) rfl rfl).mpr (Or.inr c1))]
    · rw [if_pos (Int32.not_lt.mp c1), if_neg (fun q => ((kin32 (a := 0) (b := 4) rfl rfl).mp q).elim c0 c1)]
      obtain ⟨v, hv, rfl⟩ := knum (N := 4) (by decide) c0 c1
      rw [nI_clamp (by omega)]
      unfold r_X2_numberOf
      obtain ⟨h0, h1, h2, h3, h4, h5, h6, h7, h8, h9, h10, h11, h12, h13, h14, h15⟩ := hE1
      rcases (show v = 0 ∨ v = 1 ∨ v = 2 ∨ v = 3 ∨ v = 4 by omega) with rfl | rfl | rfl | rfl | rfl
      · rw [if_neg (by decide), if_pos (by decide)]; exact h11.symm
      · rw [if_neg (by decide), if_neg (by decide), if_pos (by decide)]; exact h12.symm
      · rw [if_neg (by decide), if_neg (by decide), if_neg (by decide), if_pos (by decide)]; exact h13.symm
      · rw [if_neg (by decide), if_neg (by decide), if_neg (by decide), if_neg (by decide), if_pos (by decide)]; exact h14.symm
      · rw [if_neg (by decide), if_neg (by decide), if_neg (by decide), if_neg (by decide), if_neg (by decide)]; exact (koneIf (hb.2.1.2.2.2)).trans h15.symm
theorem q_way_0 {gN : Nat → Nat → Int32} {pg : Nat → Int32} (h : rW gN pg) (p1 : Int32) : r_X6_way gN 0 p1 = r_X7_way_0 pg p1 := by
  obtain ⟨hE0, hE1, hY2, hY3, hc, hb, hp, hl⟩ := h
  unfold r_X6_way r_X7_way_0
  rw [if_neg kz0]
  by_cases c0 : p1 = 0
  · subst c0
    rw [if_neg (by decide), if_pos (by decide), if_pos rfl, if_pos rfl, if_pos rfl]
    exact (koneIf hb.2.2.1.2.2.2.2.2).trans hY2.1.symm
  · by_cases c1 : p1 = 1
    · subst c1
      rw [if_neg (by decide), if_pos (by decide), if_pos rfl, if_neg c0, if_neg c0, if_pos rfl]
      exact (koneIf hb.2.2.1.1).trans hY2.2.1.symm
    · simp only [if_neg c0, if_neg c1]
      by_cases c2 : p1 < 0
      · rw [if_pos c2]
      · rw [if_neg c2, if_neg]
        intro c3
        obtain ⟨v, hv, rfl⟩ := knum (x := p1) (N := 1) (by decide) c2 (Int32.not_lt.mpr c3)
        rcases (show v = 0 ∨ v = 1 by omega) with rfl | rfl
        · exact c0 rfl
        · exact c1 rfl
theorem q_way_1 {gN : Nat → Nat → Int32} {pg : Nat → Int32} (h : rW gN pg) (p1 : Int32) : r_X6_way gN 1 p1 = r_X7_way_1 pg p1 := by
  obtain ⟨hE0, hE1, hY2, hY3, hc, hb, hp, hl⟩ := h
  unfold r_X6_way r_X7_way_1
  rw [if_neg kz1]
  by_cases c0 : p1 = 0
  · subst c0
    rw [if_neg (by decide), if_pos (by decide), if_neg (by decide), if_pos rfl, if_pos rfl]
    exact (koneIf hb.2.2.2.2.2.2.2.2).trans hY3.1.symm
  · by_cases c1 : p1 = 1
    · subst c1
      rw [if_neg (by decide), if_pos (by decide), if_neg (by decide), if_neg c0, if_neg c0, if_pos rfl]
      exact (koneIf hb.2.2.2.1).trans hY3.2.1.symm
    · simp only [if_neg c0, if_neg c1]
      by_cases c2 : p1 < 0
      · rw [if_pos c2]
      · rw [if_neg c2, if_neg]
        intro c3
        obtain ⟨v, hv, rfl⟩ := knum (x := p1) (N := 1) (by decide) c2 (Int32.not_lt.mpr c3)
        rcases (show v = 0 ∨ v = 1 by omega) with rfl | rfl
        · exact c0 rfl
        · exact c1 rfl
theorem q_not_0 : ∀ (n j : Nat) {g : Nat → Nat → Int32} {Z w : Nat → Int32}, rW g w → nZ Z → l_X6_noticedBy_1_r n j g = l_X7_noticed_0_1_r n j Z w
  | 0, _, _, _, _, _, _ => rfl
  | n + 1, j, g, Z, w, h, hz => by
    rw [l_X6_noticedBy_1_r, l_X7_noticed_0_1_r]
    have e : w 5 = g 0 5 := h.1.2.2.2.2.2.1
    rw [e]
    by_cases c : g 0 5 = 0
    · rw [if_pos c, if_pos c]
    · rw [if_neg c, if_neg c]
      obtain ⟨h1, h2⟩ := rW_tick h hz
      exact q_not_0 n (j + 1) h1 h2
theorem q_not_1 : ∀ (n j : Nat) {g : Nat → Nat → Int32} {Z w : Nat → Int32}, rW g w → nZ Z → l_X6_noticedBy_2_r n j g = l_X7_noticed_1_1_r n j Z w
  | 0, _, _, _, _, _, _ => rfl
  | n + 1, j, g, Z, w, h, hz => by
    rw [l_X6_noticedBy_2_r, l_X7_noticed_1_1_r]
    have e : w 21 = g 1 5 := h.2.1.2.2.2.2.2.1
    rw [e]
    by_cases c : g 1 5 = 0
    · rw [if_pos c, if_pos c]
    · rw [if_neg c, if_neg c]
      obtain ⟨h1, h2⟩ := rW_tick h hz
      exact q_not_1 n (j + 1) h1 h2
theorem rW_cut {g : Nat → Nat → Int32} {w t : Nat → Int32} (h : rW g w) : rW (kg (g 0) (g 1) (upd (g 2) 9 0) (upd (g 3) 9 0) (g 4)) (upd (upd (s_X7_lay_t w t) 32 0) 33 0) := by
  obtain ⟨a, b, c, d, e, f, i, l⟩ := rW_lay (t := t) h
  obtain ⟨f0, f1, f2, f3⟩ := f
  refine ⟨a, b, ⟨rfl, c.2.1, c.2.2⟩, ⟨rfl, d.2.1, d.2.2⟩, e, ⟨f0, f1, ⟨f2.1, f2.2.1, f2.2.2.1, f2.2.2.2.1, f2.2.2.2.2.1, kb0⟩, ⟨f3.1, f3.2.1, f3.2.2.1, f3.2.2.2.1, f3.2.2.2.2.1, kb0⟩⟩, i, l⟩
theorem nZ_lay (Z : Nat → Int32) : nZ (upd (upd (upd Z 18 (-9)) 20 0) 21 6) := ⟨rfl, rfl, rfl⟩
theorem q_noticed_0 {gN : Nat → Nat → Int32} {pg : Nat → Int32} (h : rW gN pg) (Z tr : Nat → Int32) : r_X6_noticedBy gN 0 = r_X7_noticed_0 Z pg tr := by
  unfold r_X6_noticedBy r_X7_noticed_0
  rw [if_pos rfl]
  exact q_not_0 100 0 (rW_cut h) (nZ_lay Z)
theorem q_noticed_1 {gN : Nat → Nat → Int32} {pg : Nat → Int32} (h : rW gN pg) (Z tr : Nat → Int32) : r_X6_noticedBy gN 1 = r_X7_noticed_1 Z pg tr := by
  unfold r_X6_noticedBy r_X7_noticed_1
  rw [if_neg (by decide)]
  exact q_not_1 100 0 (rW_cut h) (nZ_lay Z)
theorem q_end0_0 : ∀ (n j : Nat) (Z w : Nat → Int32), l_X7_endures_0_1_r n j 0 Z w = 0
  | 0, _, _, _ => by rw [l_X7_endures_0_1_r]
  | n + 1, j, Z, w => by rw [l_X7_endures_0_1_r, if_pos rfl]
theorem q_endl_0 : ∀ (n j i : Nat) {g : Nat → Nat → Int32} {Z w : Nat → Int32}, rT g Z w → l_X6_endures_1_r n i g = l_X7_endures_0_1_r n j 1 Z w
  | 0, _, _, _, _, _, _ => by rw [l_X6_endures_1_r, l_X7_endures_0_1_r]
  | n + 1, j, i, g, Z, w, h => by
    rw [l_X6_endures_1_r, l_X7_endures_0_1_r, if_neg (show ¬ (1 : Int32) = 0 by decide)]
    have ht := rtick h
    have e : (s_X7_tick_f Z w) 5 = (s_X5_tick_g g) 0 5 := ht.1.2.2.2.2.2.1
    by_cases c : (s_X5_tick_g g) 0 5 = 0
    · rw [if_pos c, if_pos (e.trans c)]
      first | rfl | exact (q_end0_0 n (j + 1) _ _).symm
    · rw [if_neg c, if_neg (fun q => c (e.symm.trans q))]
      exact q_endl_0 n (j + 1) (i + 1) ht
theorem q_end0_1 : ∀ (n j : Nat) (Z w : Nat → Int32), l_X7_endures_1_1_r n j 0 Z w = 0
  | 0, _, _, _ => by rw [l_X7_endures_1_1_r]
  | n + 1, j, Z, w => by rw [l_X7_endures_1_1_r, if_pos rfl]
theorem q_endl_1 : ∀ (n j i : Nat) {g : Nat → Nat → Int32} {Z w : Nat → Int32}, rT g Z w → l_X6_endures_2_r n i g = l_X7_endures_1_1_r n j 1 Z w
  | 0, _, _, _, _, _, _ => by rw [l_X6_endures_2_r, l_X7_endures_1_1_r]
  | n + 1, j, i, g, Z, w, h => by
    rw [l_X6_endures_2_r, l_X7_endures_1_1_r, if_neg (show ¬ (1 : Int32) = 0 by decide)]
    have ht := rtick h
    have e : (s_X7_tick_f Z w) 21 = (s_X5_tick_g g) 1 5 := ht.2.1.2.2.2.2.2.1
    by_cases c : (s_X5_tick_g g) 1 5 = 0
    · rw [if_pos c, if_pos (e.trans c)]
      first | rfl | exact (q_end0_1 n (j + 1) _ _).symm
    · rw [if_neg c, if_neg (fun q => c (e.symm.trans q))]
      exact q_endl_1 n (j + 1) (i + 1) ht
