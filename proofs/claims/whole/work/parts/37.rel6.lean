theorem rT_loss_0 {g : Nat → Nat → Int32} {w t : Nat → Int32} (h : rW g w) (Z : Nat → Int32) (r : Int32) : rT (kg (g 0) (g 1) (g 2) (upd (g 3) 10 r) (g 4)) (upd (upd (upd (upd (upd Z 18 (-9)) 20 0) 21 6) 18 0) 19 r) (s_X7_lay_t w t) := by
  obtain ⟨a, b, c, d, e, f, i, l⟩ := rW_lay (t := t) h
  exact ⟨a, b, c, d, e, f, i, ⟨fun _ => rfl, fun q => absurd rfl q⟩, ⟨fun q => absurd (show (0 : Int32) = 1 from q) (by decide), fun _ => l.2.1⟩, ⟨0, 0, by decide, rfl, Or.inl ⟨(show (6 : Int32) ≤ 6 by decide), l.2.2⟩⟩⟩
theorem q_endures_0 {gN : Nat → Nat → Int32} {pg : Nat → Int32} (h : rW gN pg) (Z tr : Nat → Int32) (r : Int32) : r_X7_endures_0 Z pg tr r = r_X6_endures gN 0 r := by
  unfold r_X6_endures r_X7_endures_0
  rw [if_pos rfl]
  exact (q_endl_0 60 0 1 (rT_loss_0 h Z r)).symm
theorem q_endured_0 {gN : Nat → Nat → Int32} {pg : Nat → Int32} (h : rW gN pg) (Z tr : Nat → Int32) : r_X6_enduredBy gN 0 = r_X7_endured_0 Z pg tr := by
  have q : ∀ (Z tr : Nat → Int32) (r : Int32), r_X7_endures_0 Z pg tr r = r_X6_endures gN 0 r := fun Z tr r => q_endures_0 h Z tr r
  have e5 : pg 5 = gN 0 5 := h.1.2.2.2.2.2.1
  unfold r_X6_enduredBy r_X7_endured_0
  rw [if_pos rfl, e5]
  by_cases c : gN 0 5 = 0
  · rw [if_pos c, if_pos c]
  · rw [if_neg c, if_neg c, q]
    by_cases c0 : r_X6_endures gN 0 0 = 0
    · rw [if_pos c0, if_pos c0]
    · rw [if_neg c0, if_neg c0]
      have n1 : nI 1 = 1 := rfl
      have n2 : nI (1 + 1) = 2 := rfl
      have n3 : nI (1 + 1 + 1) = 3 := rfl
      have n4 : nI (1 + 1 + 1 + 1) = 4 := rfl
      have n5 : nI (1 + 1 + 1 + 1 + 1) = 5 := rfl
      rw [l_X7_endured_0_1_r, l_X7_endured_0_1_r, l_X7_endured_0_1_r, l_X7_endured_0_1_r, l_X7_endured_0_1_r]
      simp only [l_X7_endured_0_1_r, q, n1, n2, n3, n4, n5]
      by_cases c1 : r_X6_endures gN 0 1 = 0 <;> by_cases c2 : r_X6_endures gN 0 2 = 0 <;> by_cases c3 : r_X6_endures gN 0 3 = 0 <;> by_cases c4 : r_X6_endures gN 0 4 = 0 <;> by_cases c5 : r_X6_endures gN 0 5 = 0 <;> simp only [c1, c2, c3, c4, c5, if_true, if_false]
theorem q_end_0 {gN : Nat → Nat → Int32} {pg : Nat → Int32} (h : rW gN pg) (Z tr : Nat → Int32) (p1 : Int32) : r_X6_end gN 0 p1 = r_X7_end_0 Z pg tr p1 := by
  have hh := h
  obtain ⟨hE0, hE1, hY2, hY3, hc, hb, hp, hl⟩ := h
  have hpace := rpace_0 hE0
  have hlim := rlimit_0 hE0 hp.1.2
  unfold r_X6_end r_X7_end_0
  rw [if_neg kz0]
  by_cases c0 : p1 < 0
  · rw [if_pos c0, if_pos ((kin32 (a := 0) (b := 9) rfl rfl).mpr (Or.inl c0))]
    have ne : ∀ n : Nat, n < 100 → ¬ p1 = nI n := fun n hn q => absurd (q ▸ c0) (nI_pos (by omega))
    rw [if_neg (show ¬ p1 = 10 from ne 10 (by decide)), if_neg (show ¬ p1 = 11 from ne 11 (by decide)), if_neg (show ¬ p1 = 12 from ne 12 (by decide)), if_neg (show ¬ p1 = 13 from ne 13 (by decide))]
  · rw [if_neg c0]
    by_cases c1 : 13 < p1
    · rw [if_neg (Int32.not_le.mpr c1), if_pos ((kin32 (a := 0) (b := 9) rfl rfl).mpr (Or.inr (Int32.lt_trans (by decide) c1)))]
      have ne : ∀ n : Nat, n ≤ 13 → ¬ p1 = nI n := fun n hn q => absurd c1 (by rw [q]; exact nI_nlt (a := 13) (b := n) hn (by decide))
      rw [if_neg (show ¬ p1 = 10 from ne 10 (by decide)), if_neg (show ¬ p1 = 11 from ne 11 (by decide)), if_neg (show ¬ p1 = 12 from ne 12 (by decide)), if_neg (show ¬ p1 = 13 from ne 13 (by decide))]
    · rw [if_pos (Int32.not_lt.mp c1)]
      obtain ⟨v, hv, rfl⟩ := knum (N := 13) (by decide) c0 c1
      unfold r_X0_numberOf
      obtain ⟨h0, h1, h2, h3, h4, h5, h6, h7, h8, h9, h10, h11, h12, h13, h14, h15⟩ := hE0
      rcases (show v = 0 ∨ v = 1 ∨ v = 2 ∨ v = 3 ∨ v = 4 ∨ v = 5 ∨ v = 6 ∨ v = 7 ∨ v = 8 ∨ v = 9 ∨ v = 10 ∨ v = 11 ∨ v = 12 ∨ v = 13 by omega) with rfl | rfl | rfl | rfl | rfl | rfl | rfl | rfl | rfl | rfl | rfl | rfl | rfl | rfl
      · rw [if_neg (by decide), if_neg (by decide), if_pos rfl, if_pos (by decide), if_neg (by decide)]; exact h0.symm
      · rw [if_neg (by decide), if_neg (by decide), if_pos rfl, if_neg (by decide), if_pos (by decide), if_neg (by decide)]; exact h1.symm
      · rw [if_neg (by decide), if_neg (by decide), if_pos rfl, if_neg (by decide), if_neg (by decide), if_pos (by decide), if_neg (by decide)]; exact h2.symm
      · rw [if_neg (by decide), if_neg (by decide), if_pos rfl, if_neg (by decide), if_neg (by decide), if_neg (by decide), if_pos (by decide), if_neg (by decide)]; exact h3.symm
      · rw [if_neg (by decide), if_neg (by decide), if_pos rfl, if_neg (by decide), if_neg (by decide), if_neg (by decide), if_neg (by decide), if_pos (by decide), if_neg (by decide)]; exact h4.symm
      · rw [if_neg (by decide), if_neg (by decide), if_pos rfl, if_neg (by decide), if_neg (by decide), if_neg (by decide), if_neg (by decide), if_neg (by decide), if_pos (by decide), if_neg (by decide)]; exact h5.symm
      · rw [if_neg (by decide), if_neg (by decide), if_pos rfl, if_neg (by decide), if_neg (by decide), if_neg (by decide), if_neg (by decide), if_neg (by decide), if_neg (by decide), if_pos (by decide), if_neg (by decide)]; exact (koneIf hb.1.1).trans h6.symm
      · rw [if_neg (by decide), if_neg (by decide), if_pos rfl, if_neg (by decide), if_neg (by decide), if_neg (by decide), if_neg (by decide), if_neg (by decide), if_neg (by decide), if_neg (by decide), if_pos (by decide), if_neg (by decide)]; exact (koneIf hb.1.2.1).trans h7.symm
      · rw [if_neg (by decide), if_neg (by decide), if_pos rfl, if_neg (by decide), if_neg (by decide), if_neg (by decide), if_neg (by decide), if_neg (by decide), if_neg (by decide), if_neg (by decide), if_neg (by decide), if_pos (by decide), if_neg (by decide)]; exact h8.symm
      · rw [if_neg (by decide), if_neg (by decide), if_pos rfl, if_neg (by decide), if_neg (by decide), if_neg (by decide), if_neg (by decide), if_neg (by decide), if_neg (by decide), if_neg (by decide), if_neg (by decide), if_neg (by decide), if_pos (by decide), if_neg (by decide)]; exact h9.symm
      · rw [if_neg (by decide), if_neg (by decide), if_pos rfl, if_neg (by decide), if_neg (by decide), if_neg (by decide), if_neg (by decide), if_neg (by decide), if_neg (by decide), if_neg (by decide), if_neg (by decide), if_neg (by decide), if_neg (by decide), if_pos (by decide), if_pos (by decide), if_pos (by decide)]; exact hpace.symm
      · rw [if_neg (by decide), if_neg (by decide), if_pos rfl, if_neg (by decide), if_neg (by decide), if_neg (by decide), if_neg (by decide), if_neg (by decide), if_neg (by decide), if_neg (by decide), if_neg (by decide), if_neg (by decide), if_neg (by decide), if_neg (by decide), if_pos (by decide), if_neg (by decide), if_pos (by decide)]; exact hlim.symm
      · rw [if_pos (by decide), if_pos (by decide), if_neg (by decide), if_neg (by decide), if_pos (by decide)]; exact q_noticed_0 hh _ _
      · rw [if_neg (by decide), if_pos (by decide), if_pos (by decide), if_neg (by decide), if_neg (by decide), if_neg (by decide), if_pos (by decide)]; exact q_endured_0 hh _ _
theorem rT_loss_1 {g : Nat → Nat → Int32} {w t : Nat → Int32} (h : rW g w) (Z : Nat → Int32) (r : Int32) : rT (kg (g 0) (g 1) (upd (g 2) 10 r) (g 3) (g 4)) (upd (upd (upd (upd (upd Z 18 (-9)) 20 0) 21 6) 18 1) 19 r) (s_X7_lay_t w t) := by
  obtain ⟨a, b, c, d, e, f, i, l⟩ := rW_lay (t := t) h
  exact ⟨a, b, c, d, e, f, i, ⟨fun q => absurd (show (1 : Int32) = 0 from q) (by decide), fun _ => l.1⟩, ⟨fun _ => rfl, fun q => absurd rfl q⟩, ⟨0, 0, by decide, rfl, Or.inl ⟨(show (6 : Int32) ≤ 6 by decide), l.2.2⟩⟩⟩
theorem q_endures_1 {gN : Nat → Nat → Int32} {pg : Nat → Int32} (h : rW gN pg) (Z tr : Nat → Int32) (r : Int32) : r_X7_endures_1 Z pg tr r = r_X6_endures gN 1 r := by
  unfold r_X6_endures r_X7_endures_1
  rw [if_neg (by decide)]
  exact (q_endl_1 60 0 1 (rT_loss_1 h Z r)).symm
theorem q_endured_1 {gN : Nat → Nat → Int32} {pg : Nat → Int32} (h : rW gN pg) (Z tr : Nat → Int32) : r_X6_enduredBy gN 1 = r_X7_endured_1 Z pg tr := by
  have q : ∀ (Z tr : Nat → Int32) (r : Int32), r_X7_endures_1 Z pg tr r = r_X6_endures gN 1 r := fun Z tr r => q_endures_1 h Z tr r
  have e5 : pg 21 = gN 1 5 := h.2.1.2.2.2.2.2.1
  unfold r_X6_enduredBy r_X7_endured_1
  rw [if_neg (by decide), e5]
  by_cases c : gN 1 5 = 0
  · rw [if_pos c, if_pos c]
  · rw [if_neg c, if_neg c, q]
    by_cases c0 : r_X6_endures gN 1 0 = 0
    · rw [if_pos c0, if_pos c0]
    · rw [if_neg c0, if_neg c0]
      have n1 : nI 1 = 1 := rfl
      have n2 : nI (1 + 1) = 2 := rfl
      have n3 : nI (1 + 1 + 1) = 3 := rfl
      have n4 : nI (1 + 1 + 1 + 1) = 4 := rfl
      have n5 : nI (1 + 1 + 1 + 1 + 1) = 5 := rfl
      rw [l_X7_endured_1_1_r, l_X7_endured_1_1_r, l_X7_endured_1_1_r, l_X7_endured_1_1_r, l_X7_endured_1_1_r]
      simp only [l_X7_endured_1_1_r, q, n1, n2, n3, n4, n5]
      by_cases c1 : r_X6_endures gN 1 1 = 0 <;> by_cases c2 : r_X6_endures gN 1 2 = 0 <;> by_cases c3 : r_X6_endures gN 1 3 = 0 <;> by_cases c4 : r_X6_endures gN 1 4 = 0 <;> by_cases c5 : r_X6_endures gN 1 5 = 0 <;> simp only [c1, c2, c3, c4, c5, if_true, if_false]
theorem q_end_1 {gN : Nat → Nat → Int32} {pg : Nat → Int32} (h : rW gN pg) (Z tr : Nat → Int32) (p1 : Int32) : r_X6_end gN 1 p1 = r_X7_end_1 Z pg tr p1 := by
  have hh := h
  obtain ⟨hE0, hE1, hY2, hY3, hc, hb, hp, hl⟩ := h
  have hpace := rpace_16 hE1
  have hlim := rlimit_16 hE1 hp.2.2
  unfold r_X6_end r_X7_end_1
  rw [if_neg kz1]
  by_cases c0 : p1 < 0
  · rw [if_pos c0, if_pos ((kin32 (a := 0) (b := 9) rfl rfl).mpr (Or.inl c0))]
    have ne : ∀ n : Nat, n < 100 → ¬ p1 = nI n := fun n hn q => absurd (q ▸ c0) (nI_pos (by omega))
    rw [if_neg (show ¬ p1 = 10 from ne 10 (by decide)), if_neg (show ¬ p1 = 11 from ne 11 (by decide)), if_neg (show ¬ p1 = 12 from ne 12 (by decide)), if_neg (show ¬ p1 = 13 from ne 13 (by decide))]
  · rw [if_neg c0]
    by_cases c1 : 13 < p1
    · rw [if_neg (Int32.not_le.mpr c1), if_pos ((kin32 (a := 0) (b := 9) rfl rfl).mpr (Or.inr (Int32.lt_trans (by decide) c1)))]
      have ne : ∀ n : Nat, n ≤ 13 → ¬ p1 = nI n := fun n hn q => absurd c1 (by rw [q]; exact nI_nlt (a := 13) (b := n) hn (by decide))
      rw [if_neg (show ¬ p1 = 10 from ne 10 (by decide)), if_neg (show ¬ p1 = 11 from ne 11 (by decide)), if_neg (show ¬ p1 = 12 from ne 12 (by decide)), if_neg (show ¬ p1 = 13 from ne 13 (by decide))]
    · rw [if_pos (Int32.not_lt.mp c1)]
      obtain ⟨v, hv, rfl⟩ := knum (N := 13) (by decide) c0 c1
      unfold r_X0_numberOf
      obtain ⟨h0, h1, h2, h3, h4, h5, h6, h7, h8, h9, h10, h11, h12, h13, h14, h15⟩ := hE1
      rcases (show v = 0 ∨ v = 1 ∨ v = 2 ∨ v = 3 ∨ v = 4 ∨ v = 5 ∨ v = 6 ∨ v = 7 ∨ v = 8 ∨ v = 9 ∨ v = 10 ∨ v = 11 ∨ v = 12 ∨ v = 13 by omega) with rfl | rfl | rfl | rfl | rfl | rfl | rfl | rfl | rfl | rfl | rfl | rfl | rfl | rfl
      · rw [if_neg (by decide), if_neg (by decide), if_neg (by decide), if_pos (by decide), if_neg (by decide)]; exact h0.symm
      · rw [if_neg (by decide), if_neg (by decide), if_neg (by decide), if_neg (by decide), if_pos (by decide), if_neg (by decide)]; exact h1.symm
      · rw [if_neg (by decide), if_neg (by decide), if_neg (by decide), if_neg (by decide), if_neg (by decide), if_pos (by decide), if_neg (by decide)]; exact h2.symm
      · rw [if_neg (by decide), if_neg (by decide), if_neg (by decide), if_neg (by decide), if_neg (by decide), if_neg (by decide), if_pos (by decide), if_neg (by decide)]; exact h3.symm
      · rw [if_neg (by decide), if_neg (by decide), if_neg (by decide), if_neg (by decide), if_neg (by decide), if_neg (by decide), if_neg (by decide), if_pos (by decide), if_neg (by decide)]; exact h4.symm
      · rw [if_neg (by decide), if_neg (by decide), if_neg (by decide), if_neg (by decide), if_neg (by decide), if_neg (by decide), if_neg (by decide), if_neg (by decide), if_pos (by decide), if_neg (by decide)]; exact h5.symm
      · rw [if_neg (by decide), if_neg (by decide), if_neg (by decide), if_neg (by decide), if_neg (by decide), if_neg (by decide), if_neg (by decide), if_neg (by decide), if_neg (by decide), if_pos (by decide), if_neg (by decide)]; exact (koneIf hb.2.1.1).trans h6.symm
      · rw [if_neg (by decide), if_neg (by decide), if_neg (by decide), if_neg (by decide), if_neg (by decide), if_neg (by decide), if_neg (by decide), if_neg (by decide), if_neg (by decide), if_neg (by decide), if_pos (by decide), if_neg (by decide)]; exact (koneIf hb.2.1.2.1).trans h7.symm
      · rw [if_neg (by decide), if_neg (by decide), if_neg (by decide), if_neg (by decide), if_neg (by decide), if_neg (by decide), if_neg (by decide), if_neg (by decide), if_neg (by decide), if_neg (by decide), if_neg (by decide), if_pos (by decide), if_neg (by decide)]; exact h8.symm
      · rw [if_neg (by decide), if_neg (by decide), if_neg (by decide), if_neg (by decide), if_neg (by decide), if_neg (by decide), if_neg (by decide), if_neg (by decide), if_neg (by decide), if_neg (by decide), if_neg (by decide), if_neg (by decide), if_pos (by decide), if_neg (by decide)]; exact h9.symm
      · rw [if_neg (by decide), if_neg (by decide), if_neg (by decide), if_neg (by decide), if_neg (by decide), if_neg (by decide), if_neg (by decide), if_neg (by decide), if_neg (by decide), if_neg (by decide), if_neg (by decide), if_neg (by decide), if_neg (by decide), if_pos (by decide), if_pos (by decide), if_pos (by decide)]; exact hpace.symm
      · rw [if_neg (by decide), if_neg (by decide), if_neg (by decide), if_neg (by decide), if_neg (by decide), if_neg (by decide), if_neg (by decide), if_neg (by decide), if_neg (by decide), if_neg (by decide), if_neg (by decide), if_neg (by decide), if_neg (by decide), if_neg (by decide), if_pos (by decide), if_neg (by decide), if_pos (by decide)]; exact hlim.symm
      · rw [if_pos (by decide), if_pos (by decide), if_neg (by decide), if_neg (by decide), if_pos (by decide)]; exact q_noticed_1 hh _ _
      · rw [if_neg (by decide), if_pos (by decide), if_pos (by decide), if_neg (by decide), if_neg (by decide), if_neg (by decide), if_pos (by decide)]; exact q_endured_1 hh _ _
theorem q_ahead {gN : Nat → Nat → Int32} {pg : Nat → Int32} (h : rW gN pg) (Z tr : Nat → Int32) (p0 p1 : Int32) : r_X6_ahead gN p0 p1 = r_X7_ahead Z pg tr p0 p1 := by
  unfold r_X6_ahead r_X7_ahead
  have hr := (rW_run (rW_lay (t := tr) h) (nZ_lay (upd Z 0 0)) p0).1
  generalize s_X7_goFor_f (upd (upd (upd (upd Z 0 0) 18 (-9)) 20 0) 21 6) (s_X7_lay_t pg tr) p0 = w at hr
  generalize s_X5_run_g gN p0 = g at hr
  by_cases a0 : p0 < 0
  · rw [if_pos a0, if_pos ((kin32 (a := 0) (b := 99) rfl rfl).mpr (Or.inl a0))]
  · rw [if_neg a0]
    by_cases a1 : 99 < p0
    · rw [if_pos a1, if_pos ((kin32 (a := 0) (b := 99) rfl rfl).mpr (Or.inr a1))]
    · rw [if_neg a1, if_neg (fun q => ((kin32 (a := 0) (b := 99) rfl rfl).mp q).elim a0 a1)]
      by_cases c0 : p1 < 0
      · rw [if_pos c0, if_pos ((kin32 (a := 0) (b := 3) rfl rfl).mpr (Or.inl c0))]
      · rw [if_neg c0]
        by_cases c1 : 3 < p1
        · rw [if_neg (Int32.not_le.mpr c1), if_pos ((kin32 (a := 0) (b := 3) rfl rfl).mpr (Or.inr c1))]
        · rw [if_pos (Int32.not_lt.mp c1), if_neg (fun q => ((kin32 (a := 0) (b := 3) rfl rfl).mp q).elim c0 c1)]
          obtain ⟨v, hv, rfl⟩ := knum (N := 3) (by decide) c0 c1
          rcases (show v = 0 ∨ v = 1 ∨ v = 2 ∨ v = 3 by omega) with rfl | rfl | rfl | rfl
          · rw [if_pos (by decide), if_neg (by decide)]; exact hr.1.2.2.2.2.2.1.symm
          · rw [if_neg (by decide), if_pos (by decide), if_neg (by decide)]; exact hr.2.1.2.2.2.2.2.1.symm
          · rw [if_neg (by decide), if_neg (by decide), if_pos (by decide), if_pos (by decide), if_pos (by decide)]; exact hr.2.2.2.2.1.2.1.symm
          · rw [if_neg (by decide), if_neg (by decide), if_neg (by decide), if_pos (by decide), if_neg (by decide)]; exact hr.2.2.2.2.1.2.2.symm
theorem q_letters {gN : Nat → Nat → Int32} {pg : Nat → Int32} (h : rW gN pg) (Z tr : Nat → Int32) (p0 : Int32) : r_X6_letters gN p0 = r_X7_letters Z pg tr p0 := by
  unfold r_X6_letters r_X7_letters
  have hr := (rW_run (rW_lay (t := tr) h) (nZ_lay (upd Z 0 0)) p0).1
  by_cases a0 : p0 < 0
  · rw [if_pos a0, if_pos ((kin32 (a := 0) (b := 99) rfl rfl).mpr (Or.inl a0))]
  · rw [if_neg a0]
    by_cases a1 : 99 < p0
    · rw [if_neg (Int32.not_le.mpr a1), if_pos ((kin32 (a := 0) (b := 99) rfl rfl).mpr (Or.inr a1))]
    · rw [if_pos (Int32.not_lt.mp a1), if_neg (fun q => ((kin32 (a := 0) (b := 99) rfl rfl).mp q).elim a0 a1)]
      have e1 := hr.2.2.2.2.1.2.1
      have e2 := h.2.2.2.2.1.2.1
      rw [← e1, ← e2]
theorem kx0 {x : Int32} (h : kb x) : x ^^^ 0 = x := by rcases h with rfl | rfl <;> decide
theorem kx1 {x : Int32} (h : kb x) : x ^^^ 1 = if x = 0 then 1 else 0 := by rcases h with rfl | rfl <;> decide
theorem kupd_same {f : Nat → Int32} {k : Nat} {x : Int32} (h : f k = x) : upd f k x = f := by
  funext j
  by_cases e : j = k
  · subst e; rw [pk_us, h]
  · rw [pk_un e]
theorem upd_self (f : Nat → Int32) (k : Nat) : upd f k (f k) = f := kupd_same rfl
/-- a way turned over -/
theorem rW_turn2 {g : Nat → Nat → Int32} {w : Nat → Int32} (h : rW g w) : rW (kg (g 0) (g 1) (s_X4_turnOver_Y (g 2)) (g 3) (g 4)) (upd w 32 (w 32 ^^^ 1)) := by
  obtain ⟨a, b, c, d, e, f, i, l⟩ := h
  have hk : kb (g 2 9) := f.2.2.1.2.2.2.2.2
  have e9 : (s_X4_turnOver_Y (g 2)) 9 = w 32 ^^^ 1 := by
    rw [c.1, kx1 hk]; unfold s_X4_turnOver_Y
    by_cases q : g 2 9 = 0
    · rw [if_pos q, if_pos q]; rfl
    · rw [if_neg q, if_neg q]; rfl
  have en : ∀ k, k ≠ 9 → (s_X4_turnOver_Y (g 2)) k = g 2 k := fun k hk => by
    unfold s_X4_turnOver_Y; split <;> exact pk_un hk
  refine ⟨a, b, ⟨e9.symm, ?_, fun q => ?_⟩, d, e, ⟨f.1, f.2.1, b_s_X4_turnOver_Y _ f.2.2.1, f.2.2.2⟩, i, ⟨l.1, (en 10 (by decide)).trans l.2.1, l.2.2⟩⟩
  · show w 34 = (s_X4_turnOver_Y (g 2)) 0
    rw [en 0 (by decide)]; exact c.2.1
  · have q2 : (s_X4_turnOver_Y (g 2)) 0 = 1 := q
    rw [en 0 (by decide)] at q2
    obtain ⟨l1, l2, l3, l4, l5, l6, l7, l8⟩ := c.2.2 q2
    exact ⟨l1.trans (en 1 (by decide)).symm, l2.trans (en 2 (by decide)).symm, l3.trans (en 3 (by decide)).symm, l4.trans (en 4 (by decide)).symm, l5.trans (en 5 (by decide)).symm, l6.trans (en 6 (by decide)).symm, l7.trans (en 7 (by decide)).symm, l8.trans (en 8 (by decide)).symm⟩
theorem rW_turn3 {g : Nat → Nat → Int32} {w : Nat → Int32} (h : rW g w) : rW (kg (g 0) (g 1) (g 2) (s_X4_turnOver_Y (g 3)) (g 4)) (upd w 33 (w 33 ^^^ 1)) := by
  obtain ⟨a, b, c, d, e, f, i, l⟩ := h
  have hk : kb (g 3 9) := f.2.2.2.2.2.2.2.2
  have e9 : (s_X4_turnOver_Y (g 3)) 9 = w 33 ^^^ 1 := by
    rw [d.1, kx1 hk]; unfold s_X4_turnOver_Y
    by_cases q : g 3 9 = 0
    · rw [if_pos q, if_pos q]; rfl
    · rw [if_neg q, if_neg q]; rfl
  have en : ∀ k, k ≠ 9 → (s_X4_turnOver_Y (g 3)) k = g 3 k := fun k hk => by
    unfold s_X4_turnOver_Y; split <;> exact pk_un hk
  refine ⟨a, b, c, ⟨e9.symm, ?_, fun q => ?_⟩, e, ⟨f.1, f.2.1, f.2.2.1, b_s_X4_turnOver_Y _ f.2.2.2⟩, i, ⟨(en 10 (by decide)).trans l.1, l.2.1, l.2.2⟩⟩
  · show w 43 = (s_X4_turnOver_Y (g 3)) 0
    rw [en 0 (by decide)]; exact d.2.1
  · have q2 : (s_X4_turnOver_Y (g 3)) 0 = 1 := q
    rw [en 0 (by decide)] at q2
    obtain ⟨l1, l2, l3, l4, l5, l6, l7, l8⟩ := d.2.2 q2
    exact ⟨l1.trans (en 1 (by decide)).symm, l2.trans (en 2 (by decide)).symm, l3.trans (en 3 (by decide)).symm, l4.trans (en 4 (by decide)).symm, l5.trans (en 5 (by decide)).symm, l6.trans (en 6 (by decide)).symm, l7.trans (en 7 (by decide)).symm, l8.trans (en 8 (by decide)).symm⟩
/-- days drawn -/
theorem q_dr (gN : Nat → Nat → Int32) (pg : Nat → Int32) (h54 : pg 54 = gN 4 2) : ∀ (n j i : Nat) {g : Nat → Nat → Int32} {Z w : Nat → Int32} (sd : Int64), rW g w → nZ Z → l_X6_drawn_1_r gN n j g sd = l_X7_drawn_1_r pg n i Z w sd ∧ l_X6_drawn_1_sd n j g sd = l_X7_drawn_1_sd n i Z w sd
  | 0, _, _, g, Z, w, sd, h, _ => by
    rw [l_X6_drawn_1_r, l_X7_drawn_1_r, l_X6_drawn_1_sd, l_X7_drawn_1_sd, h54, h.2.2.2.2.1.2.2]
    exact ⟨rfl, rfl⟩
  | n + 1, j, i, g, Z, w, sd, h, hz => by
    rw [l_X6_drawn_1_r, l_X7_drawn_1_r, l_X6_drawn_1_sd, l_X7_drawn_1_sd]
    have k2 : kb (w 32) := by rw [h.2.2.1.1]; exact h.2.2.2.2.2.1.2.2.1.2.2.2.2.2
    have k3 : kb (w 33) := by rw [h.2.2.2.1.1]; exact h.2.2.2.2.2.1.2.2.2.2.2.2.2.2
    rw [kx0 k2, kx0 k3, upd_self, upd_self]
    generalize (sd * 6364136223846793005) + 1442695040888963407 = s2
    by_cases c1 : kRem ((kUshrL s2 33).toInt32) 16 = 0
    · rw [if_pos c1, if_pos c1, if_pos c1, if_pos c1, if_pos c1, if_pos c1]
      by_cases c2 : kRem (((kUshrL s2 33).toInt32) / 16) 2 = 0
      · rw [if_pos c2, if_pos c2, if_pos c2, if_pos c2]
        obtain ⟨t1, t2⟩ := rW_tick (rW_turn2 h) hz
        exact q_dr gN pg h54 n (j + 1) (i + 1) s2 t1 t2
      · rw [if_neg c2, if_neg c2, if_neg c2, if_neg c2]
        obtain ⟨t1, t2⟩ := rW_tick (rW_turn3 h) hz
        exact q_dr gN pg h54 n (j + 1) (i + 1) s2 t1 t2
    · rw [if_neg c1, if_neg c1, if_neg c1, if_neg c1, if_neg c1, if_neg c1]
      obtain ⟨t1, t2⟩ := rW_tick h hz
      have r := q_dr gN pg h54 n (j + 1) (i + 1) s2 t1 t2
      by_cases c2 : kRem (((kUshrL s2 33).toInt32) / 16) 2 = 0
      · rw [if_pos c2, if_pos c2]; exact r
      · rw [if_neg c2, if_neg c2]; exact r
theorem q_drawn {gN : Nat → Nat → Int32} {pg : Nat → Int32} (h : rW gN pg) (Z tr : Nat → Int32) (sd : Int64) (p0 : Int32) : r_X6_drawn sd gN p0 = r_X7_drawn Z sd pg tr p0 ∧ s_X6_drawn_sd sd gN p0 = s_X7_drawn_sd Z sd pg tr p0 := by
  unfold r_X6_drawn r_X7_drawn s_X6_drawn_sd s_X7_drawn_sd
  by_cases a0 : p0 < 1
  · rw [if_pos a0, if_pos a0, if_pos ((kin32 (a := 1) (b := 99) rfl rfl).mpr (Or.inl a0)), if_pos ((kin32 (a := 1) (b := 99) rfl rfl).mpr (Or.inl a0))]; exact ⟨rfl, rfl⟩
  · rw [if_neg a0, if_neg a0]
    by_cases a1 : 99 < p0
    · rw [if_neg (Int32.not_le.mpr a1), if_neg (Int32.not_le.mpr a1), if_pos ((kin32 (a := 1) (b := 99) rfl rfl).mpr (Or.inr a1)), if_pos ((kin32 (a := 1) (b := 99) rfl rfl).mpr (Or.inr a1))]; exact ⟨rfl, rfl⟩
    · rw [if_pos (Int32.not_lt.mp a1), if_pos (Int32.not_lt.mp a1), if_neg (fun q => ((kin32 (a := 1) (b := 99) rfl rfl).mp q).elim a0 a1), if_neg (fun q => ((kin32 (a := 1) (b := 99) rfl rfl).mp q).elim a0 a1)]
      exact q_dr gN pg h.2.2.2.2.1.2.2 _ _ _ sd (rW_lay h) (nZ_lay _)
