theorem kwl : ∀ (n j m : Nat), m < 2 ^ 63 → l_X6_withoutLast_1_r n j (lN m) = lN (m / 1000 ^ n)
  | 0, _, m, _ => by rw [l_X6_withoutLast_1_r, Nat.pow_zero, Nat.div_one]
  | n + 1, j, m, h => by
    rw [l_X6_withoutLast_1_r, show (1000 : Int64) = lN 1000 from rfl, pk_lDiv h (by decide) (by decide), kwl n (j + 1) (m / 1000) (Nat.lt_of_le_of_lt (Nat.div_le_self _ _) h), Nat.div_div_eq_div_mul, Nat.pow_succ, Nat.mul_comm]
theorem kwl2 {m n : Nat} (h : m < 2 ^ 63) (hn : n < 2 ^ 31) : r_X6_withoutLast (lN m) (nI n) = lN (m / 1000 ^ n) := by
  unfold r_X6_withoutLast
  rw [nI_clamp hn]
  exact kwl n 0 m h
theorem kdg {q : Nat} (h : q < 2 ^ 63) : (kRemL (lN q) 1000).toInt32 = nI (q % 1000) := by
  unfold kRemL
  rw [show (1000 : Int64) = lN 1000 from rfl, pk_lRem h (by decide) (by decide)]
  exact lN_i _
theorem kcmp0 (x : Int64) : (lg_cmp x 0 < 0) ↔ x < 0 := by
  rw [lg_cmp_lt, Int64.lt_iff_toInt_lt]
theorem kcmpe {m : Nat} (h : m < 2 ^ 63) : lg_cmp (lN m) 0 = 0 ↔ m = 0 := by
  constructor
  · intro q
    have h2 : ¬ 0 < lg_cmp (lN m) 0 := by rw [q]; decide
    rw [lg_cmp_gt] at h2
    have h3 : ¬ 0 < m := fun z => h2 ((pk_lLT (a := 0) (b := m) (by decide) h).mpr z)
    omega
  · intro q; subst q; decide
theorem kin64 {m N : Nat} {B : Int64} (h : m < 2 ^ 63) (hB : B.toInt = (N : Int)) : r_X7_in (lN m) 0 B = 0 ↔ N < m := by
  rw [kin_iff]
  constructor
  · intro q
    rcases Nat.lt_or_ge N m with c | c
    · exact c
    · rw [if_pos ⟨Int64.le_iff_toInt_le.mpr (by rw [pk_lT h]; simp), Int64.le_iff_toInt_le.mpr (by rw [pk_lT h, hB]; omega)⟩] at q
      exact absurd q (by decide)
  · intro q
    rw [if_neg]
    rintro ⟨-, c⟩
    have := Int64.le_iff_toInt_le.mp c
    rw [pk_lT h, hB] at this
    omega
theorem kinneg {x B : Int64} (h : x < 0) : r_X7_in x 0 B = 0 := by
  rw [kin_iff, if_neg]
  rintro ⟨c, -⟩
  have a := Int64.le_iff_toInt_le.mp c
  have b := Int64.lt_iff_toInt_lt.mp h
  omega
theorem q_judge_1 {gN : Nat → Nat → Int32} {pg : Nat → Int32} (h : rW gN pg) (Z tr : Nat → Int32) (p1 : Int64) : r_X6_judge gN 1 p1 = r_X7_judge_1 pg tr p1 := by
  unfold r_X6_judge r_X7_judge_1
  rw [if_neg (by decide), if_neg (by decide)]
  by_cases c0 : lg_cmp p1 0 < 0
  · rw [if_pos c0, if_pos (kinneg ((kcmp0 p1).mp c0))]
  · rw [if_neg c0]
    obtain ⟨m, hm, rfl⟩ := pk_lOf (x := p1) (fun q => c0 ((kcmp0 p1).mpr q))
    rw [show (1 : Int32) = nI 1 from rfl, kwl2 hm (by decide)]
    by_cases c1 : 999 < m
    · rw [if_pos ((kin64 (N := 999) hm (by decide)).mpr c1), if_neg]
      intro q
      have := (kcmpe (Nat.lt_of_le_of_lt (Nat.div_le_self _ _) hm)).mp q
      have := Nat.div_pos (a := m) (b := 1000 ^ 1) (by omega) (by decide)
      omega
    · rw [if_neg (fun q => c1 ((kin64 (N := 999) hm (by decide)).mp q)), if_pos ((kcmpe (Nat.lt_of_le_of_lt (Nat.div_le_self _ _) hm)).mpr (Nat.div_eq_of_lt (by omega)))]
      rw [nI_clamp (n := 1) (by decide)]
      have hz := nZ_lay (upd Z 0 0)
      have h0 := rW_lay (t := tr) h
      generalize (upd (upd (upd (upd Z 0 0) 18 (-9)) 20 0) 21 6) = Z0 at hz ⊢
      generalize s_X7_lay_t pg tr = w0 at h0 ⊢
      have f0 : (kRemL (r_X6_withoutLast (lN m) ((nI 1 - 1) - nI (0))) 1000).toInt32 = nI (m / 1 % 1000) := by
        rw [show (nI 1 - 1) - nI (0) = nI 0 from by decide, kwl2 hm (by decide), kdg (Nat.lt_of_le_of_lt (Nat.div_le_self _ _) hm)]
      have m0 : (kRemL (lN m / 1) 1000).toInt32 = nI (m / 1 % 1000) := by
        rw [show lN m / (1 : Int64) = lN (m / 1) from pk_lDiv hm (by decide) (by decide), kdg (Nat.lt_of_le_of_lt (Nat.div_le_self _ _) hm)]
      have t0 : m / 1 % 1000 < 1000 := Nat.mod_lt _ (by decide)
      simp only [m0]
      generalize m / 1 % 1000 = d0 at f0 m0 t0 ⊢
      obtain ⟨a0, b0, c0, -⟩ := kdig t0
      rw [a0, b0, c0]
      obtain ⟨r0, s0⟩ := q_does h0 hz t0
      rw [l_X6_judge_1_r, f0]
      by_cases q0 : r_X6_canBe gN (nI d0) = 0
      · rw [if_pos q0, if_pos (r0.symm.trans q0)]; rfl
      · rw [if_neg q0, if_neg (fun z => q0 (r0.trans z))]
        obtain ⟨h1, hz1⟩ := s0 q0
        rw [l_X6_judge_1_r]
theorem q_judge_2 {gN : Nat → Nat → Int32} {pg : Nat → Int32} (h : rW gN pg) (Z tr : Nat → Int32) (p1 : Int64) : r_X6_judge gN 2 p1 = r_X7_judge_2 Z pg tr p1 := by
  unfold r_X6_judge r_X7_judge_2
  rw [if_neg (by decide), if_neg (by decide)]
  by_cases c0 : lg_cmp p1 0 < 0
  · rw [if_pos c0, if_pos (kinneg ((kcmp0 p1).mp c0))]
  · rw [if_neg c0]
    obtain ⟨m, hm, rfl⟩ := pk_lOf (x := p1) (fun q => c0 ((kcmp0 p1).mpr q))
    rw [show (2 : Int32) = nI 2 from rfl, kwl2 hm (by decide)]
    by_cases c1 : 999999 < m
    · rw [if_pos ((kin64 (N := 999999) hm (by decide)).mpr c1), if_neg]
      intro q
      have := (kcmpe (Nat.lt_of_le_of_lt (Nat.div_le_self _ _) hm)).mp q
      have := Nat.div_pos (a := m) (b := 1000 ^ 2) (by omega) (by decide)
      omega
    · rw [if_neg (fun q => c1 ((kin64 (N := 999999) hm (by decide)).mp q)), if_pos ((kcmpe (Nat.lt_of_le_of_lt (Nat.div_le_self _ _) hm)).mpr (Nat.div_eq_of_lt (by omega)))]
      rw [nI_clamp (n := 2) (by decide)]
      have hz := nZ_lay (upd Z 0 0)
      have h0 := rW_lay (t := tr) h
      generalize (upd (upd (upd (upd Z 0 0) 18 (-9)) 20 0) 21 6) = Z0 at hz ⊢
      generalize s_X7_lay_t pg tr = w0 at h0 ⊢
      have f0 : (kRemL (r_X6_withoutLast (lN m) ((nI 2 - 1) - nI (0))) 1000).toInt32 = nI (m / 1000 % 1000) := by
        rw [show (nI 2 - 1) - nI (0) = nI 1 from by decide, kwl2 hm (by decide), kdg (Nat.lt_of_le_of_lt (Nat.div_le_self _ _) hm)]
      have m0 : (kRemL (lN m / 1000) 1000).toInt32 = nI (m / 1000 % 1000) := by
        rw [show lN m / (1000 : Int64) = lN (m / 1000) from pk_lDiv hm (by decide) (by decide), kdg (Nat.lt_of_le_of_lt (Nat.div_le_self _ _) hm)]
      have t0 : m / 1000 % 1000 < 1000 := Nat.mod_lt _ (by decide)
      have f1 : (kRemL (r_X6_withoutLast (lN m) ((nI 2 - 1) - nI (0 + 1))) 1000).toInt32 = nI (m / 1 % 1000) := by
        rw [show (nI 2 - 1) - nI (0 + 1) = nI 0 from by decide, kwl2 hm (by decide), kdg (Nat.lt_of_le_of_lt (Nat.div_le_self _ _) hm)]
      have m1 : (kRemL (lN m / 1) 1000).toInt32 = nI (m / 1 % 1000) := by
        rw [show lN m / (1 : Int64) = lN (m / 1) from pk_lDiv hm (by decide) (by decide), kdg (Nat.lt_of_le_of_lt (Nat.div_le_self _ _) hm)]
      have t1 : m / 1 % 1000 < 1000 := Nat.mod_lt _ (by decide)
      simp only [m0, m1]
      generalize m / 1000 % 1000 = d0 at f0 m0 t0 ⊢
      obtain ⟨a0, b0, c0, -⟩ := kdig t0
      generalize m / 1 % 1000 = d1 at f1 m1 t1 ⊢
      obtain ⟨a1, b1, c1, -⟩ := kdig t1
      rw [a0, b0, c0, a1, b1, c1]
      obtain ⟨r0, s0⟩ := q_does h0 hz t0
      rw [l_X6_judge_1_r, f0]
      by_cases q0 : r_X6_canBe gN (nI d0) = 0
      · rw [if_pos q0, if_pos (r0.symm.trans q0)]; rfl
      · rw [if_neg q0, if_neg (fun z => q0 (r0.trans z))]
        obtain ⟨h1, hz1⟩ := s0 q0
        obtain ⟨r1, s1⟩ := q_does h1 hz1 t1
        rw [l_X6_judge_1_r, f1]
        by_cases q1 : r_X6_canBe (s_X6_canBe_gT gN (nI d0)) (nI d1) = 0
        · rw [if_pos q1, if_pos (r1.symm.trans q1)]; rfl
        · rw [if_neg q1, if_neg (fun z => q1 (r1.trans z))]
          obtain ⟨h2, hz2⟩ := s1 q1
          rw [l_X6_judge_1_r]
theorem q_judge_3 {gN : Nat → Nat → Int32} {pg : Nat → Int32} (h : rW gN pg) (Z tr : Nat → Int32) (p1 : Int64) : r_X6_judge gN 3 p1 = r_X7_judge_3 Z pg tr p1 := by
  unfold r_X6_judge r_X7_judge_3
  rw [if_neg (by decide), if_neg (by decide)]
  by_cases c0 : lg_cmp p1 0 < 0
  · rw [if_pos c0, if_pos (kinneg ((kcmp0 p1).mp c0))]
  · rw [if_neg c0]
    obtain ⟨m, hm, rfl⟩ := pk_lOf (x := p1) (fun q => c0 ((kcmp0 p1).mpr q))
    rw [show (3 : Int32) = nI 3 from rfl, kwl2 hm (by decide)]
    by_cases c1 : 999999999 < m
    · rw [if_pos ((kin64 (N := 999999999) hm (by decide)).mpr c1), if_neg]
      intro q
      have := (kcmpe (Nat.lt_of_le_of_lt (Nat.div_le_self _ _) hm)).mp q
      have := Nat.div_pos (a := m) (b := 1000 ^ 3) (by omega) (by decide)
      omega
    · rw [if_neg (fun q => c1 ((kin64 (N := 999999999) hm (by decide)).mp q)), if_pos ((kcmpe (Nat.lt_of_le_of_lt (Nat.div_le_self _ _) hm)).mpr (Nat.div_eq_of_lt (by omega)))]
      rw [nI_clamp (n := 3) (by decide)]
      have hz := nZ_lay (upd Z 0 0)
      have h0 := rW_lay (t := tr) h
      generalize (upd (upd (upd (upd Z 0 0) 18 (-9)) 20 0) 21 6) = Z0 at hz ⊢
      generalize s_X7_lay_t pg tr = w0 at h0 ⊢
      have f0 : (kRemL (r_X6_withoutLast (lN m) ((nI 3 - 1) - nI (0))) 1000).toInt32 = nI (m / 1000000 % 1000) := by
        rw [show (nI 3 - 1) - nI (0) = nI 2 from by decide, kwl2 hm (by decide), kdg (Nat.lt_of_le_of_lt (Nat.div_le_self _ _) hm)]
      have m0 : (kRemL (lN m / 1000000) 1000).toInt32 = nI (m / 1000000 % 1000) := by
        rw [show lN m / (1000000 : Int64) = lN (m / 1000000) from pk_lDiv hm (by decide) (by decide), kdg (Nat.lt_of_le_of_lt (Nat.div_le_self _ _) hm)]
      have t0 : m / 1000000 % 1000 < 1000 := Nat.mod_lt _ (by decide)
      have f1 : (kRemL (r_X6_withoutLast (lN m) ((nI 3 - 1) - nI (0 + 1))) 1000).toInt32 = nI (m / 1000 % 1000) := by
        rw [show (nI 3 - 1) - nI (0 + 1) = nI 1 from by decide, kwl2 hm (by decide), kdg (Nat.lt_of_le_of_lt (Nat.div_le_self _ _) hm)]
      have m1 : (kRemL (lN m / 1000) 1000).toInt32 = nI (m / 1000 % 1000) := by
        rw [show lN m / (1000 : Int64) = lN (m / 1000) from pk_lDiv hm (by decide) (by decide), kdg (Nat.lt_of_le_of_lt (Nat.div_le_self _ _) hm)]
      have t1 : m / 1000 % 1000 < 1000 := Nat.mod_lt _ (by decide)
      have f2 : (kRemL (r_X6_withoutLast (lN m) ((nI 3 - 1) - nI (0 + 1 + 1))) 1000).toInt32 = nI (m / 1 % 1000) := by
        rw [show (nI 3 - 1) - nI (0 + 1 + 1) = nI 0 from by decide, kwl2 hm (by decide), kdg (Nat.lt_of_le_of_lt (Nat.div_le_self _ _) hm)]
      have m2 : (kRemL (lN m / 1) 1000).toInt32 = nI (m / 1 % 1000) := by
        rw [show lN m / (1 : Int64) = lN (m / 1) from pk_lDiv hm (by decide) (by decide), kdg (Nat.lt_of_le_of_lt (Nat.div_le_self _ _) hm)]
      have t2 : m / 1 % 1000 < 1000 := Nat.mod_lt _ (by decide)
      simp only [m0, m1, m2]
      generalize m / 1000000 % 1000 = d0 at f0 m0 t0 ⊢
      obtain ⟨a0, b0, c0, -⟩ := kdig t0
      generalize m / 1000 % 1000 = d1 at f1 m1 t1 ⊢
      obtain ⟨a1, b1, c1, -⟩ := kdig t1
      generalize m / 1 % 1000 = d2 at f2 m2 t2 ⊢
      obtain ⟨a2, b2, c2, -⟩ := kdig t2
      rw [a0, b0, c0, a1, b1, c1, a2, b2, c2]
      obtain ⟨r0, s0⟩ := q_does h0 hz t0
      rw [l_X6_judge_1_r, f0]
      by_cases q0 : r_X6_canBe gN (nI d0) = 0
      · rw [if_pos q0, if_pos (r0.symm.trans q0)]; rfl
      · rw [if_neg q0, if_neg (fun z => q0 (r0.trans z))]
        obtain ⟨h1, hz1⟩ := s0 q0
        obtain ⟨r1, s1⟩ := q_does h1 hz1 t1
        rw [l_X6_judge_1_r, f1]
        by_cases q1 : r_X6_canBe (s_X6_canBe_gT gN (nI d0)) (nI d1) = 0
        · rw [if_pos q1, if_pos (r1.symm.trans q1)]; rfl
        · rw [if_neg q1, if_neg (fun z => q1 (r1.trans z))]
          obtain ⟨h2, hz2⟩ := s1 q1
          obtain ⟨r2, s2⟩ := q_does h2 hz2 t2
          rw [l_X6_judge_1_r, f2]
          by_cases q2 : r_X6_canBe (s_X6_canBe_gT (s_X6_canBe_gT gN (nI d0)) (nI d1)) (nI d2) = 0
          · rw [if_pos q2, if_pos (r2.symm.trans q2)]; rfl
          · rw [if_neg q2, if_neg (fun z => q2 (r2.trans z))]
            obtain ⟨h3, hz3⟩ := s2 q2
            rw [l_X6_judge_1_r]
theorem q_judge_4 {gN : Nat → Nat → Int32} {pg : Nat → Int32} (h : rW gN pg) (Z tr : Nat → Int32) (p1 : Int64) : r_X6_judge gN 4 p1 = r_X7_judge_4 Z pg tr p1 := by
  unfold r_X6_judge r_X7_judge_4
  rw [if_neg (by decide), if_neg (by decide)]
  by_cases c0 : lg_cmp p1 0 < 0
  · rw [if_pos c0, if_pos (kinneg ((kcmp0 p1).mp c0))]
  · rw [if_neg c0]
    obtain ⟨m, hm, rfl⟩ := pk_lOf (x := p1) (fun q => c0 ((kcmp0 p1).mpr q))
    rw [show (4 : Int32) = nI 4 from rfl, kwl2 hm (by decide)]
    by_cases c1 : 999999999999 < m
    · rw [if_pos ((kin64 (N := 999999999999) hm (by decide)).mpr c1), if_neg]
      intro q
      have := (kcmpe (Nat.lt_of_le_of_lt (Nat.div_le_self _ _) hm)).mp q
      have := Nat.div_pos (a := m) (b := 1000 ^ 4) (by omega) (by decide)
      omega
    · rw [if_neg (fun q => c1 ((kin64 (N := 999999999999) hm (by decide)).mp q)), if_pos ((kcmpe (Nat.lt_of_le_of_lt (Nat.div_le_self _ _) hm)).mpr (Nat.div_eq_of_lt (by omega)))]
      rw [nI_clamp (n := 4) (by decide)]
      have hz := nZ_lay (upd Z 0 0)
      have h0 := rW_lay (t := tr) h
      generalize (upd (upd (upd (upd Z 0 0) 18 (-9)) 20 0) 21 6) = Z0 at hz ⊢
      generalize s_X7_lay_t pg tr = w0 at h0 ⊢
      have f0 : (kRemL (r_X6_withoutLast (lN m) ((nI 4 - 1) - nI (0))) 1000).toInt32 = nI (m / 1000000000 % 1000) := by
        rw [show (nI 4 - 1) - nI (0) = nI 3 from by decide, kwl2 hm (by decide), kdg (Nat.lt_of_le_of_lt (Nat.div_le_self _ _) hm)]
      have m0 : (kRemL (lN m / 1000000000) 1000).toInt32 = nI (m / 1000000000 % 1000) := by
        rw [show lN m / (1000000000 : Int64) = lN (m / 1000000000) from pk_lDiv hm (by decide) (by decide), kdg (Nat.lt_of_le_of_lt (Nat.div_le_self _ _) hm)]
      have t0 : m / 1000000000 % 1000 < 1000 := Nat.mod_lt _ (by decide)
      have f1 : (kRemL (r_X6_withoutLast (lN m) ((nI 4 - 1) - nI (0 + 1))) 1000).toInt32 = nI (m / 1000000 % 1000) := by
        rw [show (nI 4 - 1) - nI (0 + 1) = nI 2 from by decide, kwl2 hm (by decide), kdg (Nat.lt_of_le_of_lt (Nat.div_le_self _ _) hm)]
      have m1 : (kRemL (lN m / 1000000) 1000).toInt32 = nI (m / 1000000 % 1000) := by
        rw [show lN m / (1000000 : Int64) = lN (m / 1000000) from pk_lDiv hm (by decide) (by decide), kdg (Nat.lt_of_le_of_lt (Nat.div_le_self _ _) hm)]
      have t1 : m / 1000000 % 1000 < 1000 := Nat.mod_lt _ (by decide)
      have f2 : (kRemL (r_X6_withoutLast (lN m) ((nI 4 - 1) - nI (0 + 1 + 1))) 1000).toInt32 = nI (m / 1000 % 1000) := by
        rw [show (nI 4 - 1) - nI (0 + 1 + 1) = nI 1 from by decide, kwl2 hm (by decide), kdg (Nat.lt_of_le_of_lt (Nat.div_le_self _ _) hm)]
      have m2 : (kRemL (lN m / 1000) 1000).toInt32 = nI (m / 1000 % 1000) := by
        rw [show lN m / (1000 : Int64) = lN (m / 1000) from pk_lDiv hm (by decide) (by decide), kdg (Nat.lt_of_le_of_lt (Nat.div_le_self _ _) hm)]
      have t2 : m / 1000 % 1000 < 1000 := Nat.mod_lt _ (by decide)
      have f3 : (kRemL (r_X6_withoutLast (lN m) ((nI 4 - 1) - nI (0 + 1 + 1 + 1))) 1000).toInt32 = nI (m / 1 % 1000) := by
        rw [show (nI 4 - 1) - nI (0 + 1 + 1 + 1) = nI 0 from by decide, kwl2 hm (by decide), kdg (Nat.lt_of_le_of_lt (Nat.div_le_self _ _) hm)]
      have m3 : (kRemL (lN m / 1) 1000).toInt32 = nI (m / 1 % 1000) := by
        rw [show lN m / (1 : Int64) = lN (m / 1) from pk_lDiv hm (by decide) (by decide), kdg (Nat.lt_of_le_of_lt (Nat.div_le_self _ _) hm)]
      have t3 : m / 1 % 1000 < 1000 := Nat.mod_lt _ (by decide)
      simp only [m0, m1, m2, m3]
      generalize m / 1000000000 % 1000 = d0 at f0 m0 t0 ⊢
      obtain ⟨a0, b0, c0, -⟩ := kdig t0
      generalize m / 1000000 % 1000 = d1 at f1 m1 t1 ⊢
      obtain ⟨a1, b1, c1, -⟩ := kdig t1
      generalize m / 1000 % 1000 = d2 at f2 m2 t2 ⊢
      obtain ⟨a2, b2, c2, -⟩ := kdig t2
      generalize m / 1 % 1000 = d3 at f3 m3 t3 ⊢
      obtain ⟨a3, b3, c3, -⟩ := kdig t3
      rw [a0, b0, c0, a1, b1, c1, a2, b2, c2, a3, b3, c3]
      obtain ⟨r0, s0⟩ := q_does h0 hz t0
      rw [l_X6_judge_1_r, f0]
      by_cases q0 : r_X6_canBe gN (nI d0) = 0
      · rw [if_pos q0, if_pos (r0.symm.trans q0)]; rfl
      · rw [if_neg q0, if_neg (fun z => q0 (r0.trans z))]
        obtain ⟨h1, hz1⟩ := s0 q0
        obtain ⟨r1, s1⟩ := q_does h1 hz1 t1
        rw [l_X6_judge_1_r, f1]
        by_cases q1 : r_X6_canBe (s_X6_canBe_gT gN (nI d0)) (nI d1) = 0
        · rw [if_pos q1, if_pos (r1.symm.trans q1)]; rfl
        · rw [if_neg q1, if_neg (fun z => q1 (r1.trans z))]
          obtain ⟨h2, hz2⟩ := s1 q1
          obtain ⟨r2, s2⟩ := q_does h2 hz2 t2
          rw [l_X6_judge_1_r, f2]
          by_cases q2 : r_X6_canBe (s_X6_canBe_gT (s_X6_canBe_gT gN (nI d0)) (nI d1)) (nI d2) = 0
          · rw [if_pos q2, if_pos (r2.symm.trans q2)]; rfl
          · rw [if_neg q2, if_neg (fun z => q2 (r2.trans z))]
            obtain ⟨h3, hz3⟩ := s2 q2
            obtain ⟨r3, s3⟩ := q_does h3 hz3 t3
            rw [l_X6_judge_1_r, f3]
            by_cases q3 : r_X6_canBe (s_X6_canBe_gT (s_X6_canBe_gT (s_X6_canBe_gT gN (nI d0)) (nI d1)) (nI d2)) (nI d3) = 0
            · rw [if_pos q3, if_pos (r3.symm.trans q3)]; rfl
            · rw [if_neg q3, if_neg (fun z => q3 (r3.trans z))]
              obtain ⟨h4, hz4⟩ := s3 q3
              rw [l_X6_judge_1_r]
