/-! shares and chances -/
theorem kgd : ∀ (k n j a b : Nat), b < 2 ^ k → 2 * k + 1 ≤ n → a < 2 ^ 31 → b < 2 ^ 31 → l_X6_greatestDivisor_1_r n j (nI a) (nI b) = nI (Nat.gcd a b)
  | 0, 0, _, _, _, _, h, _, _ => absurd h (by omega)
  | 0, n + 1, j, a, b, hb, _, _, _ => by
    have : b = 0 := by simpa using hb
    subst this
    rw [l_X6_greatestDivisor_1_r, if_pos nI_0, Nat.gcd_zero_right]
  | k + 1, 0, _, _, _, _, h, _, _ => absurd h (by omega)
  | k + 1, 1, _, _, _, _, h, _, _ => absurd h (by omega)
  | k + 1, n + 2, j, a, b, hb, hn, ha, hb2 => by
    rw [l_X6_greatestDivisor_1_r]
    by_cases hz : b = 0
    · subst hz
      rw [if_pos nI_0, Nat.gcd_zero_right]
    · have hp : 0 < b := Nat.pos_of_ne_zero hz
      have hlt := Nat.mod_lt a hp
      rw [if_neg (show ¬ nI b = 0 from fun q => hz ((nI_eq (b := 0) hb2 (by decide)).mp q)), kRem_nat ha hp hb2, l_X6_greatestDivisor_1_r]
      have e1 : Nat.gcd a b = Nat.gcd b (a % b) := by rw [Nat.gcd_comm b (a % b), ← Nat.gcd_rec b a, Nat.gcd_comm]
      by_cases hr : a % b = 0
      · rw [hr, if_pos nI_0, e1, hr, Nat.gcd_zero_right]
      · have hq : 0 < a % b := Nat.pos_of_ne_zero hr
        have hlt2 := Nat.mod_lt b hq
        have hdm := Nat.div_add_mod b (a % b)
        have hge : 1 ≤ b / (a % b) := (Nat.one_le_div_iff hq).mpr (by omega)
        have hmul : a % b ≤ (a % b) * (b / (a % b)) := Nat.le_mul_of_pos_right _ hge
        have h2k : 2 ^ (k + 1) = 2 * 2 ^ k := by rw [Nat.pow_succ, Nat.mul_comm]
        rw [if_neg (show ¬ nI (a % b) = 0 from fun q => hr ((nI_eq (b := 0) (by omega) (by decide)).mp q)), kRem_nat hb2 hq (by omega)]
        rw [kgd k n (j + 1 + 1) (a % b) (b % (a % b)) (by omega) (by omega) (by omega) (by omega)]
        rw [e1, Nat.gcd_comm (a % b) (b % (a % b)), ← Nat.gcd_rec (a % b) b, Nat.gcd_comm]
theorem kabs_nat {n : Nat} {x : Int32} (h : kBd n x) (hn : n < 2 ^ 31) : kAbs x = nI x.toInt.natAbs := by
  unfold kAbs
  by_cases c : 0 ≤ x
  · rw [if_pos c]; exact kabs1 c
  · rw [if_neg c, Int32.zero_sub]; exact kabs2 c (kBd_min h hn)
theorem q_frac {n b : Nat} {x p2 : Int32} (h : kBd n x) (hn : n < 2 ^ 31) (h0 : 0 < b) (hb : b < 2 ^ 20) : r_X6_fraction x (nI b) p2 = r_X7_fraction x x.toInt.natAbs b p2 := by
  have ha := kBd_abs h hn
  unfold r_X6_fraction r_X7_fraction
  have e : r_X6_greatestDivisor (kAbs x) (nI b) = nI (Nat.gcd x.toInt.natAbs b) := by
    unfold r_X6_greatestDivisor
    rw [kabs_nat h hn]
    exact kgd 20 64 0 _ _ hb (by decide) ha (by omega)
  rw [e, kdivisor ha (by omega)]
  have h1 : Nat.gcd x.toInt.natAbs b ≤ b := Nat.gcd_le_right _ h0
  have h2 : 0 < Nat.gcd x.toInt.natAbs b := Nat.gcd_pos_of_pos_right _ h0
  rw [if_pos (show 1 ≤ nI (Nat.gcd x.toInt.natAbs b) from nI_le (a := 1) (by omega) (by omega))]
theorem pE_leave {X : Nat → Int32} {a b : Int32} (h : pE X) : pE (s_X0_leaveOnly_X X a b) := by
  obtain ⟨h1, h4⟩ := h
  unfold s_X0_leaveOnly_X
  have z : (0 : Int32) ≤ 1 := by decide
  repeat' split
  all_goals first | exact ⟨h1, h4⟩ | exact ⟨z, z⟩
set_option maxHeartbeats 2000000 in
theorem q_sent_0 {gN : Nat → Nat → Int32} {pg : Nat → Int32} (h : rW gN pg) (Z tr : Nat → Int32) : r_X6_sentWith gN (nI 0) = r_X7_sentBy Z pg tr (nI 0) - pg 53 := by
  have a0 : (nI 0 &&& 1 = 0) := by decide
  have m0 : (r_X7_has (nI 0) 0 = 0) := by decide
  have a1 : (nI 0 &&& 2 = 0) := by decide
  have m1 : (r_X7_has (nI 0) 1 = 0) := by decide
  have a2 : (nI 0 &&& 4 = 0) := by decide
  have m2 : (r_X7_has (nI 0) 2 = 0) := by decide
  have a3 : (nI 0 &&& 8 = 0) := by decide
  have m3 : (r_X7_has (nI 0) 3 = 0) := by decide
  have h53 : pg 53 = gN 4 1 := h.2.2.2.2.1.2.1
  unfold r_X6_sentWith r_X7_sentBy t_X7_sentBy_3_tr t_X7_sentBy_2_tr t_X7_sentBy_1_tr
  simp only [if_pos a0, if_pos m0, if_pos a1, if_pos m1, if_pos a2, if_pos m2, if_pos a3, if_pos m3]
  have hL := rW_lay (t := tr) h
  generalize s_X7_lay_t pg tr = w0 at hL ⊢
  obtain ⟨⟨h0, h1, h2, h3, h4, h5, h6, h7, h8, h9, h10, h11, h12, h13, h14, h15⟩, ⟨i0, i1, i2, i3, i4, i5, i6, i7, i8, i9, i10, i11, i12, i13, i14, i15⟩, c, d, e, f, i, l⟩ := hL
  have hw : rW (kg (s_X0_leaveOnly_X (gN 0) 0 0) (s_X0_leaveOnly_X (gN 1) 0 0) (gN 2) (gN 3) (gN 4)) (upd (upd (upd (upd (upd (upd (upd (upd w0 0 1) 3 1) 1 1) 4 1) 16 1) 19 1) 17 1) 20 1) := by
    refine ⟨?_, ?_, c, d, e, ⟨b_s_X0_leaveOnly_X _ _ _ f.1, b_s_X0_leaveOnly_X _ _ _ f.2.1, f.2.2⟩, ⟨pE_leave i.1, pE_leave i.2⟩, l⟩
    · show rE0 (s_X0_leaveOnly_X (gN 0) 0 0) _
      unfold s_X0_leaveOnly_X
      rw [if_pos rfl, if_pos rfl]
      exact ⟨(by first | exact h0 | rfl), (by first | exact h1 | rfl), h2, (by first | exact h3 | rfl), (by first | exact h4 | rfl), h5, h6, h7, h8, h9, h10, h11, h12, h13, h14, h15⟩
    · show rE16 (s_X0_leaveOnly_X (gN 1) 0 0) _
      unfold s_X0_leaveOnly_X
      rw [if_pos rfl, if_pos rfl]
      exact ⟨(by first | exact i0 | rfl), (by first | exact i1 | rfl), i2, (by first | exact i3 | rfl), (by first | exact i4 | rfl), i5, i6, i7, i8, i9, i10, i11, i12, i13, i14, i15⟩
  generalize (60 : Int32) = k60
  have := (rW_run hw (nZ_lay Z) k60).1.2.2.2.2.1.2.1
  rw [h53, ← this]
set_option maxHeartbeats 2000000 in
theorem q_sent_1 {gN : Nat → Nat → Int32} {pg : Nat → Int32} (h : rW gN pg) (Z tr : Nat → Int32) : r_X6_sentWith gN (nI 1) = r_X7_sentBy Z pg tr (nI 1) - pg 53 := by
  have a0 : ¬ (nI 1 &&& 1 = 0) := by decide
  have m0 : ¬ (r_X7_has (nI 1) 0 = 0) := by decide
  have a1 : (nI 1 &&& 2 = 0) := by decide
  have m1 : (r_X7_has (nI 1) 1 = 0) := by decide
  have a2 : (nI 1 &&& 4 = 0) := by decide
  have m2 : (r_X7_has (nI 1) 2 = 0) := by decide
  have a3 : (nI 1 &&& 8 = 0) := by decide
  have m3 : (r_X7_has (nI 1) 3 = 0) := by decide
  have h53 : pg 53 = gN 4 1 := h.2.2.2.2.1.2.1
  unfold r_X6_sentWith r_X7_sentBy t_X7_sentBy_3_tr t_X7_sentBy_2_tr t_X7_sentBy_1_tr
  simp only [if_neg a0, if_neg m0, if_pos a1, if_pos m1, if_pos a2, if_pos m2, if_pos a3, if_pos m3]
  have hL := rW_lay (t := tr) h
  generalize s_X7_lay_t pg tr = w0 at hL ⊢
  obtain ⟨⟨h0, h1, h2, h3, h4, h5, h6, h7, h8, h9, h10, h11, h12, h13, h14, h15⟩, ⟨i0, i1, i2, i3, i4, i5, i6, i7, i8, i9, i10, i11, i12, i13, i14, i15⟩, c, d, e, f, i, l⟩ := hL
  have hw : rW (kg (s_X0_leaveOnly_X (gN 0) 1 0) (s_X0_leaveOnly_X (gN 1) 0 0) (gN 2) (gN 3) (gN 4)) (upd (upd (upd (upd (upd (upd (upd (upd w0 0 (w0 0)) 3 (w0 3)) 1 1) 4 1) 16 1) 19 1) 17 1) 20 1) := by
    refine ⟨?_, ?_, c, d, e, ⟨b_s_X0_leaveOnly_X _ _ _ f.1, b_s_X0_leaveOnly_X _ _ _ f.2.1, f.2.2⟩, ⟨pE_leave i.1, pE_leave i.2⟩, l⟩
    · show rE0 (s_X0_leaveOnly_X (gN 0) 1 0) _
      unfold s_X0_leaveOnly_X
      rw [if_neg (by decide), if_pos rfl]
      exact ⟨(by first | exact h0 | rfl), (by first | exact h1 | rfl), h2, (by first | exact h3 | rfl), (by first | exact h4 | rfl), h5, h6, h7, h8, h9, h10, h11, h12, h13, h14, h15⟩
    · show rE16 (s_X0_leaveOnly_X (gN 1) 0 0) _
      unfold s_X0_leaveOnly_X
      rw [if_pos rfl, if_pos rfl]
      exact ⟨(by first | exact i0 | rfl), (by first | exact i1 | rfl), i2, (by first | exact i3 | rfl), (by first | exact i4 | rfl), i5, i6, i7, i8, i9, i10, i11, i12, i13, i14, i15⟩
  generalize (60 : Int32) = k60
  have := (rW_run hw (nZ_lay Z) k60).1.2.2.2.2.1.2.1
  rw [h53, ← this]
set_option maxHeartbeats 2000000 in
theorem q_sent_2 {gN : Nat → Nat → Int32} {pg : Nat → Int32} (h : rW gN pg) (Z tr : Nat → Int32) : r_X6_sentWith gN (nI 2) = r_X7_sentBy Z pg tr (nI 2) - pg 53 := by
  have a0 : (nI 2 &&& 1 = 0) := by decide
  have m0 : (r_X7_has (nI 2) 0 = 0) := by decide
  have a1 : ¬ (nI 2 &&& 2 = 0) := by decide
  have m1 : ¬ (r_X7_has (nI 2) 1 = 0) := by decide
  have a2 : (nI 2 &&& 4 = 0) := by decide
  have m2 : (r_X7_has (nI 2) 2 = 0) := by decide
  have a3 : (nI 2 &&& 8 = 0) := by decide
  have m3 : (r_X7_has (nI 2) 3 = 0) := by decide
  have h53 : pg 53 = gN 4 1 := h.2.2.2.2.1.2.1
  unfold r_X6_sentWith r_X7_sentBy t_X7_sentBy_3_tr t_X7_sentBy_2_tr t_X7_sentBy_1_tr
  simp only [if_pos a0, if_pos m0, if_neg a1, if_neg m1, if_pos a2, if_pos m2, if_pos a3, if_pos m3]
  have hL := rW_lay (t := tr) h
  generalize s_X7_lay_t pg tr = w0 at hL ⊢
  obtain ⟨⟨h0, h1, h2, h3, h4, h5, h6, h7, h8, h9, h10, h11, h12, h13, h14, h15⟩, ⟨i0, i1, i2, i3, i4, i5, i6, i7, i8, i9, i10, i11, i12, i13, i14, i15⟩, c, d, e, f, i, l⟩ := hL
  have hw : rW (kg (s_X0_leaveOnly_X (gN 0) 0 1) (s_X0_leaveOnly_X (gN 1) 0 0) (gN 2) (gN 3) (gN 4)) (upd (upd (upd (upd (upd (upd (upd (upd w0 0 1) 3 1) 1 ((upd (upd w0 0 1) 3 1) 1)) 4 ((upd (upd w0 0 1) 3 1) 4)) 16 1) 19 1) 17 1) 20 1) := by
    refine ⟨?_, ?_, c, d, e, ⟨b_s_X0_leaveOnly_X _ _ _ f.1, b_s_X0_leaveOnly_X _ _ _ f.2.1, f.2.2⟩, ⟨pE_leave i.1, pE_leave i.2⟩, l⟩
    · show rE0 (s_X0_leaveOnly_X (gN 0) 0 1) _
      unfold s_X0_leaveOnly_X
      rw [if_pos rfl, if_neg (by decide)]
      exact ⟨(by first | exact h0 | rfl), (by first | exact h1 | rfl), h2, (by first | exact h3 | rfl), (by first | exact h4 | rfl), h5, h6, h7, h8, h9, h10, h11, h12, h13, h14, h15⟩
    · show rE16 (s_X0_leaveOnly_X (gN 1) 0 0) _
      unfold s_X0_leaveOnly_X
      rw [if_pos rfl, if_pos rfl]
      exact ⟨(by first | exact i0 | rfl), (by first | exact i1 | rfl), i2, (by first | exact i3 | rfl), (by first | exact i4 | rfl), i5, i6, i7, i8, i9, i10, i11, i12, i13, i14, i15⟩
  generalize (60 : Int32) = k60
  have := (rW_run hw (nZ_lay Z) k60).1.2.2.2.2.1.2.1
  rw [h53, ← this]
set_option maxHeartbeats 2000000 in
theorem q_sent_3 {gN : Nat → Nat → Int32} {pg : Nat → Int32} (h : rW gN pg) (Z tr : Nat → Int32) : r_X6_sentWith gN (nI 3) = r_X7_sentBy Z pg tr (nI 3) - pg 53 := by
  have a0 : ¬ (nI 3 &&& 1 = 0) := by decide
  have m0 : ¬ (r_X7_has (nI 3) 0 = 0) := by decide
  have a1 : ¬ (nI 3 &&& 2 = 0) := by decide
  have m1 : ¬ (r_X7_has (nI 3) 1 = 0) := by decide
  have a2 : (nI 3 &&& 4 = 0) := by decide
  have m2 : (r_X7_has (nI 3) 2 = 0) := by decide
  have a3 : (nI 3 &&& 8 = 0) := by decide
  have m3 : (r_X7_has (nI 3) 3 = 0) := by decide
  have h53 : pg 53 = gN 4 1 := h.2.2.2.2.1.2.1
  unfold r_X6_sentWith r_X7_sentBy t_X7_sentBy_3_tr t_X7_sentBy_2_tr t_X7_sentBy_1_tr
  simp only [if_neg a0, if_neg m0, if_neg a1, if_neg m1, if_pos a2, if_pos m2, if_pos a3, if_pos m3]
  have hL := rW_lay (t := tr) h
  generalize s_X7_lay_t pg tr = w0 at hL ⊢
  obtain ⟨⟨h0, h1, h2, h3, h4, h5, h6, h7, h8, h9, h10, h11, h12, h13, h14, h15⟩, ⟨i0, i1, i2, i3, i4, i5, i6, i7, i8, i9, i10, i11, i12, i13, i14, i15⟩, c, d, e, f, i, l⟩ := hL
  have hw : rW (kg (s_X0_leaveOnly_X (gN 0) 1 1) (s_X0_leaveOnly_X (gN 1) 0 0) (gN 2) (gN 3) (gN 4)) (upd (upd (upd (upd (upd (upd (upd (upd w0 0 (w0 0)) 3 (w0 3)) 1 ((upd (upd w0 0 (w0 0)) 3 (w0 3)) 1)) 4 ((upd (upd w0 0 (w0 0)) 3 (w0 3)) 4)) 16 1) 19 1) 17 1) 20 1) := by
    refine ⟨?_, ?_, c, d, e, ⟨b_s_X0_leaveOnly_X _ _ _ f.1, b_s_X0_leaveOnly_X _ _ _ f.2.1, f.2.2⟩, ⟨pE_leave i.1, pE_leave i.2⟩, l⟩
    · show rE0 (s_X0_leaveOnly_X (gN 0) 1 1) _
      unfold s_X0_leaveOnly_X
      rw [if_neg (by decide), if_neg (by decide)]
      exact ⟨(by first | exact h0 | rfl), (by first | exact h1 | rfl), h2, (by first | exact h3 | rfl), (by first | exact h4 | rfl), h5, h6, h7, h8, h9, h10, h11, h12, h13, h14, h15⟩
    · show rE16 (s_X0_leaveOnly_X (gN 1) 0 0) _
      unfold s_X0_leaveOnly_X
      rw [if_pos rfl, if_pos rfl]
      exact ⟨(by first | exact i0 | rfl), (by first | exact i1 | rfl), i2, (by first | exact i3 | rfl), (by first | exact i4 | rfl), i5, i6, i7, i8, i9, i10, i11, i12, i13, i14, i15⟩
  generalize (60 : Int32) = k60
  have := (rW_run hw (nZ_lay Z) k60).1.2.2.2.2.1.2.1
  rw [h53, ← this]
set_option maxHeartbeats 2000000 in
theorem q_sent_4 {gN : Nat → Nat → Int32} {pg : Nat → Int32} (h : rW gN pg) (Z tr : Nat → Int32) : r_X6_sentWith gN (nI 4) = r_X7_sentBy Z pg tr (nI 4) - pg 53 := by
  have a0 : (nI 4 &&& 1 = 0) := by decide
  have m0 : (r_X7_has (nI 4) 0 = 0) := by decide
  have a1 : (nI 4 &&& 2 = 0) := by decide
  have m1 : (r_X7_has (nI 4) 1 = 0) := by decide
  have a2 : ¬ (nI 4 &&& 4 = 0) := by decide
  have m2 : ¬ (r_X7_has (nI 4) 2 = 0) := by decide
  have a3 : (nI 4 &&& 8 = 0) := by decide
  have m3 : (r_X7_has (nI 4) 3 = 0) := by decide
  have h53 : pg 53 = gN 4 1 := h.2.2.2.2.1.2.1
  unfold r_X6_sentWith r_X7_sentBy t_X7_sentBy_3_tr t_X7_sentBy_2_tr t_X7_sentBy_1_tr
  simp only [if_pos a0, if_pos m0, if_pos a1, if_pos m1, if_neg a2, if_neg m2, if_pos a3, if_pos m3]
  have hL := rW_lay (t := tr) h
  generalize s_X7_lay_t pg tr = w0 at hL ⊢
  obtain ⟨⟨h0, h1, h2, h3, h4, h5, h6, h7, h8, h9, h10, h11, h12, h13, h14, h15⟩, ⟨i0, i1, i2, i3, i4, i5, i6, i7, i8, i9, i10, i11, i12, i13, i14, i15⟩, c, d, e, f, i, l⟩ := hL
  have hw : rW (kg (s_X0_leaveOnly_X (gN 0) 0 0) (s_X0_leaveOnly_X (gN 1) 1 0) (gN 2) (gN 3) (gN 4)) (upd (upd (upd (upd (upd (upd (upd (upd w0 0 1) 3 1) 1 1) 4 1) 16 ((upd (upd w0 0 1) 3 1) 16)) 19 ((upd (upd w0 0 1) 3 1) 19)) 17 1) 20 1) := by
    refine ⟨?_, ?_, c, d, e, ⟨b_s_X0_leaveOnly_X _ _ _ f.1, b_s_X0_leaveOnly_X _ _ _ f.2.1, f.2.2⟩, ⟨pE_leave i.1, pE_leave i.2⟩, l⟩
    · show rE0 (s_X0_leaveOnly_X (gN 0) 0 0) _
      unfold s_X0_leaveOnly_X
      rw [if_pos rfl, if_pos rfl]
      exact ⟨(by first | exact h0 | rfl), (by first | exact h1 | rfl), h2, (by first | exact h3 | rfl), (by first | exact h4 | rfl), h5, h6, h7, h8, h9, h10, h11, h12, h13, h14, h15⟩
    · show rE16 (s_X0_leaveOnly_X (gN 1) 1 0) _
      unfold s_X0_leaveOnly_X
      rw [if_neg (by decide), if_pos rfl]
      exact ⟨(by first | exact i0 | rfl), (by first | exact i1 | rfl), i2, (by first | exact i3 | rfl), (by first | exact i4 | rfl), i5, i6, i7, i8, i9, i10, i11, i12, i13, i14, i15⟩
  generalize (60 : Int32) = k60
  have := (rW_run hw (nZ_lay Z) k60).1.2.2.2.2.1.2.1
  rw [h53, ← this]
set_option maxHeartbeats 2000000 in
theorem q_sent_5 {gN : Nat → Nat → Int32} {pg : Nat → Int32} (h : rW gN pg) (Z tr : Nat → Int32) : r_X6_sentWith gN (nI 5) = r_X7_sentBy Z pg tr (nI 5) - pg 53 := by
  have a0 : ¬ (nI 5 &&& 1 = 0) := by decide
  have m0 : ¬ (r_X7_has (nI 5) 0 = 0) := by decide
  have a1 : (nI 5 &&& 2 = 0) := by decide
  have m1 : (r_X7_has (nI 5) 1 = 0) := by decide
  have a2 : ¬ (nI 5 &&& 4 = 0) := by decide
  have m2 : ¬ (r_X7_has (nI 5) 2 = 0) := by decide
  have a3 : (nI 5 &&& 8 = 0) := by decide
  have m3 : (r_X7_has (nI 5) 3 = 0) := by decide
  have h53 : pg 53 = gN 4 1 := h.2.2.2.2.1.2.1
  unfold r_X6_sentWith r_X7_sentBy t_X7_sentBy_3_tr t_X7_sentBy_2_tr t_X7_sentBy_1_tr
  simp only [if_neg a0, if_neg m0, if_pos a1, if_pos m1, if_neg a2, if_neg m2, if_pos a3, if_pos m3]
  have hL := rW_lay (t := tr) h
  generalize s_X7_lay_t pg tr = w0 at hL ⊢
  obtain ⟨⟨h0, h1, h2, h3, h4, h5, h6, h7, h8, h9, h10, h11, h12, h13, h14, h15⟩, ⟨i0, i1, i2, i3, i4, i5, i6, i7, i8, i9, i10, i11, i12, i13, i14, i15⟩, c, d, e, f, i, l⟩ := hL
  have hw : rW (kg (s_X0_leaveOnly_X (gN 0) 1 0) (s_X0_leaveOnly_X (gN 1) 1 0) (gN 2) (gN 3) (gN 4)) (upd (upd (upd (upd (upd (upd (upd (upd w0 0 (w0 0)) 3 (w0 3)) 1 1) 4 1) 16 ((upd (upd w0 0 (w0 0)) 3 (w0 3)) 16)) 19 ((upd (upd w0 0 (w0 0)) 3 (w0 3)) 19)) 17 1) 20 1) := by
    refine ⟨?_, ?_, c, d, e, ⟨b_s_X0_leaveOnly_X _ _ _ f.1, b_s_X0_leaveOnly_X _ _ _ f.2.1, f.2.2⟩, ⟨pE_leave i.1, pE_leave i.2⟩, l⟩
    · show rE0 (s_X0_leaveOnly_X (gN 0) 1 0) _
      unfold s_X0_leaveOnly_X
      rw [if_neg (by decide), if_pos rfl]
      exact ⟨(by first | exact h0 | rfl), (by first | exact h1 | rfl), h2, (by first | exact h3 | rfl), (by first | exact h4 | rfl), h5, h6, h7, h8, h9, h10, h11, h12, h13, h14, h15⟩
    · show rE16 (s_X0_leaveOnly_X (gN 1) 1 0) _
      unfold s_X0_leaveOnly_X
      rw [if_neg (by decide), if_pos rfl]
      exact ⟨(by first | exact i0 | rfl), (by first | exact i1 | rfl), i2, (by first | exact i3 | rfl), (by first | exact i4 | rfl), i5, i6, i7, i8, i9, i10, i11, i12, i13, i14, i15⟩
  generalize (60 : Int32) = k60
  have := (rW_run hw (nZ_lay Z) k60).1.2.2.2.2.1.2.1
  rw [h53, ← this]
set_option maxHeartbeats 2000000 in
theorem q_sent_6 {gN : Nat → Nat → Int32} {pg : Nat → Int32} (h : rW gN pg) (Z tr : Nat → Int32) : r_X6_sentWith gN (nI 6) = r_X7_sentBy Z pg tr (nI 6) - pg 53 := by
  have a0 : (nI 6 &&& 1 = 0) := by decide
  have m0 : (r_X7_has (nI 6) 0 = 0) := by decide
  have a1 : ¬ (nI 6 &&& 2 = 0) := by decide
  have m1 : ¬ (r_X7_has (nI 6) 1 = 0) := by decide
  have a2 : ¬ (nI 6 &&& 4 = 0) := by decide
  have m2 : ¬ (r_X7_has (nI 6) 2 = 0) := by decide
  have a3 : (nI 6 &&& 8 = 0) := by decide
  have m3 : (r_X7_has (nI 6) 3 = 0) := by decide
  have h53 : pg 53 = gN 4 1 := h.2.2.2.2.1.2.1
  unfold r_X6_sentWith r_X7_sentBy t_X7_sentBy_3_tr t_X7_sentBy_2_tr t_X7_sentBy_1_tr
  simp only [if_pos a0, if_pos m0, if_neg a1, if_neg m1, if_neg a2, if_neg m2, if_pos a3, if_pos m3]
  have hL := rW_lay (t := tr) h
  generalize s_X7_lay_t pg tr = w0 at hL ⊢
  obtain ⟨⟨h0, h1, h2, h3, h4, h5, h6, h7, h8, h9, h10, h11, h12, h13, h14, h15⟩, ⟨i0, i1, i2, i3, i4, i5, i6, i7, i8, i9, i10, i11, i12, i13, i14, i15⟩, c, d, e, f, i, l⟩ := hL
  have hw : rW (kg (s_X0_leaveOnly_X (gN 0) 0 1) (s_X0_leaveOnly_X (gN 1) 1 0) (gN 2) (gN 3) (gN 4)) (upd (upd (upd (upd (upd (upd (upd (upd w0 0 1) 3 1) 1 ((upd (upd w0 0 1) 3 1) 1)) 4 ((upd (upd w0 0 1) 3 1) 4)) 16 ((upd (upd w0 0 1) 3 1) 16)) 19 ((upd (upd w0 0 1) 3 1) 19)) 17 1) 20 1) := by
    refine ⟨?_, ?_, c, d, e, ⟨b_s_X0_leaveOnly_X _ _ _ f.1, b_s_X0_leaveOnly_X _ _ _ f.2.1, f.2.2⟩, ⟨pE_leave i.1, pE_leave i.2⟩, l⟩
    · show rE0 (s_X0_leaveOnly_X (gN 0) 0 1) _
      unfold s_X0_leaveOnly_X
      rw [if_pos rfl, if_neg (by decide)]
      exact ⟨(by first | exact h0 | rfl), (by first | exact h1 | rfl), h2, (by first | exact h3 | rfl), (by first | exact h4 | rfl), h5, h6, h7, h8, h9, h10, h11, h12, h13, h14, h15⟩
    · show rE16 (s_X0_leaveOnly_X (gN 1) 1 0) _
      unfold s_X0_leaveOnly_X
      rw [if_neg (by decide), if_pos rfl]
      exact ⟨(by first | exact i0 | rfl), (by first | exact i1 | rfl), i2, (by first | exact i3 | rfl), (by first | exact i4 | rfl), i5, i6, i7, i8, i9, i10, i11, i12, i13, i14, i15⟩
  generalize (60 : Int32) = k60
  have := (rW_run hw (nZ_lay Z) k60).1.2.2.2.2.1.2.1
  rw [h53, ← this]
set_option maxHeartbeats 2000000 in
theorem q_sent_7 {gN : Nat → Nat → Int32} {pg : Nat → Int32} (h : rW gN pg) (Z tr : Nat → Int32) : r_X6_sentWith gN (nI 7) = r_X7_sentBy Z pg tr (nI 7) - pg 53 := by
  have a0 : ¬ (nI 7 &&& 1 = 0) := by decide
  have m0 : ¬ (r_X7_has (nI 7) 0 = 0) := by decide
  have a1 : ¬ (nI 7 &&& 2 = 0) := by decide
  have m1 : ¬ (r_X7_has (nI 7) 1 = 0) := by decide
  have a2 : ¬ (nI 7 &&& 4 = 0) := by decide
  have m2 : ¬ (r_X7_has (nI 7) 2 = 0) := by decide
  have a3 : (nI 7 &&& 8 = 0) := by decide
  have m3 : (r_X7_has (nI 7) 3 = 0) := by decide
  have h53 : pg 53 = gN 4 1 := h.2.2.2.2.1.2.1
  unfold r_X6_sentWith r_X7_sentBy t_X7_sentBy_3_tr t_X7_sentBy_2_tr t_X7_sentBy_1_tr
  simp only [if_neg a0, if_neg m0, if_neg a1, if_neg m1, if_neg a2, if_neg m2, if_pos a3, if_pos m3]
  have hL := rW_lay (t := tr) h
  generalize s_X7_lay_t pg tr = w0 at hL ⊢
  obtain ⟨⟨h0, h1, h2, h3, h4, h5, h6, h7, h8, h9, h10, h11, h12, h13, h14, h15⟩, ⟨i0, i1, i2, i3, i4, i5, i6, i7, i8, i9, i10, i11, i12, i13, i14, i15⟩, c, d, e, f, i, l⟩ := hL
  have hw : rW (kg (s_X0_leaveOnly_X (gN 0) 1 1) (s_X0_leaveOnly_X (gN 1) 1 0) (gN 2) (gN 3) (gN 4)) (upd (upd (upd (upd (upd (upd (upd (upd w0 0 (w0 0)) 3 (w0 3)) 1 ((upd (upd w0 0 (w0 0)) 3 (w0 3)) 1)) 4 ((upd (upd w0 0 (w0 0)) 3 (w0 3)) 4)) 16 ((upd (upd w0 0 (w0 0)) 3 (w0 3)) 16)) 19 ((upd (upd w0 0 (w0 0)) 3 (w0 3)) 19)) 17 1) 20 1) := by
    refine ⟨?_, ?_, c, d, e, ⟨b_s_X0_leaveOnly_X _ _ _ f.1, b_s_X0_leaveOnly_X _ _ _ f.2.1, f.2.2⟩, ⟨pE_leave i.1, pE_leave i.2⟩, l⟩
    · show rE0 (s_X0_leaveOnly_X (gN 0) 1 1) _
      unfold s_X0_leaveOnly_X
      rw [if_neg (by decide), if_neg (by decide)]
      exact ⟨(by first | exact h0 | rfl), (by first | exact h1 | rfl), h2, (by first | exact h3 | rfl), (by first | exact h4 | rfl), h5, h6, h7, h8, h9, h10, h11, h12, h13, h14, h15⟩
    · show rE16 (s_X0_leaveOnly_X (gN 1) 1 0) _
      unfold s_X0_leaveOnly_X
      rw [if_neg (by decide), if_pos rfl]
      exact ⟨(by first | exact i0 | rfl), (by first | exact i1 | rfl), i2, (by first | exact i3 | rfl), (by first | exact i4 | rfl), i5, i6, i7, i8, i9, i10, i11, i12, i13, i14, i15⟩
  generalize (60 : Int32) = k60
  have := (rW_run hw (nZ_lay Z) k60).1.2.2.2.2.1.2.1
  rw [h53, ← this]
set_option maxHeartbeats 2000000 in
theorem q_sent_8 {gN : Nat → Nat → Int32} {pg : Nat → Int32} (h : rW gN pg) (Z tr : Nat → Int32) : r_X6_sentWith gN (nI 8) = r_X7_sentBy Z pg tr (nI 8) - pg 53 := by
  have a0 : (nI 8 &&& 1 = 0) := by decide
  have m0 : (r_X7_has (nI 8) 0 = 0) := by decide
  have a1 : (nI 8 &&& 2 = 0) := by decide
  have m1 : (r_X7_has (nI 8) 1 = 0) := by decide
  have a2 : (nI 8 &&& 4 = 0) := by decide
  have m2 : (r_X7_has (nI 8) 2 = 0) := by decide
  have a3 : ¬ (nI 8 &&& 8 = 0) := by decide
  have m3 : ¬ (r_X7_has (nI 8) 3 = 0) := by decide
  have h53 : pg 53 = gN 4 1 := h.2.2.2.2.1.2.1
  unfold r_X6_sentWith r_X7_sentBy t_X7_sentBy_3_tr t_X7_sentBy_2_tr t_X7_sentBy_1_tr
  simp only [if_pos a0, if_pos m0, if_pos a1, if_pos m1, if_pos a2, if_pos m2, if_neg a3, if_neg m3]
  have hL := rW_lay (t := tr) h
  generalize s_X7_lay_t pg tr = w0 at hL ⊢
  obtain ⟨⟨h0, h1, h2, h3, h4, h5, h6, h7, h8, h9, h10, h11, h12, h13, h14, h15⟩, ⟨i0, i1, i2, i3, i4, i5, i6, i7, i8, i9, i10, i11, i12, i13, i14, i15⟩, c, d, e, f, i, l⟩ := hL
  have hw : rW (kg (s_X0_leaveOnly_X (gN 0) 0 0) (s_X0_leaveOnly_X (gN 1) 0 1) (gN 2) (gN 3) (gN 4)) (upd (upd (upd (upd (upd (upd (upd (upd w0 0 1) 3 1) 1 1) 4 1) 16 1) 19 1) 17 ((upd (upd (upd (upd (upd (upd w0 0 1) 3 1) 1 1) 4 1) 16 1) 19 1) 17)) 20 ((upd (upd (upd (upd (upd (upd w0 0 1) 3 1) 1 1) 4 1) 16 1) 19 1) 20)) := by
    refine ⟨?_, ?_, c, d, e, ⟨b_s_X0_leaveOnly_X _ _ _ f.1, b_s_X0_leaveOnly_X _ _ _ f.2.1, f.2.2⟩, ⟨pE_leave i.1, pE_leave i.2⟩, l⟩
    · show rE0 (s_X0_leaveOnly_X (gN 0) 0 0) _
      unfold s_X0_leaveOnly_X
      rw [if_pos rfl, if_pos rfl]
      exact ⟨(by first | exact h0 | rfl), (by first | exact h1 | rfl), h2, (by first | exact h3 | rfl), (by first | exact h4 | rfl), h5, h6, h7, h8, h9, h10, h11, h12, h13, h14, h15⟩
    · show rE16 (s_X0_leaveOnly_X (gN 1) 0 1) _
      unfold s_X0_leaveOnly_X
      rw [if_pos rfl, if_neg (by decide)]
      exact ⟨(by first | exact i0 | rfl), (by first | exact i1 | rfl), i2, (by first | exact i3 | rfl), (by first | exact i4 | rfl), i5, i6, i7, i8, i9, i10, i11, i12, i13, i14, i15⟩
  generalize (60 : Int32) = k60
  have := (rW_run hw (nZ_lay Z) k60).1.2.2.2.2.1.2.1
  rw [h53, ← this]
set_option maxHeartbeats 2000000 in
theorem q_sent_9 {gN : Nat → Nat → Int32} {pg : Nat → Int32} (h : rW gN pg) (Z tr : Nat → Int32) : r_X6_sentWith gN (nI 9) = r_X7_sentBy Z pg tr (nI 9) - pg 53 := by
  have a0 : ¬ (nI 9 &&& 1 = 0) := by decide
  have m0 : ¬ (r_X7_has (nI 9) 0 = 0) := by decide
  have a1 : (nI 9 &&& 2 = 0) := by decide
  have m1 : (r_X7_has (nI 9) 1 = 0) := by decide
  have a2 : (nI 9 &&& 4 = 0) := by decide
  have m2 : (r_X7_has (nI 9) 2 = 0) := by decide
  have a3 : ¬ (nI 9 &&& 8 = 0) := by decide
  have m3 : ¬ (r_X7_has (nI 9) 3 = 0) := by decide
  have h53 : pg 53 = gN 4 1 := h.2.2.2.2.1.2.1
  unfold r_X6_sentWith r_X7_sentBy t_X7_sentBy_3_tr t_X7_sentBy_2_tr t_X7_sentBy_1_tr
  simp only [if_neg a0, if_neg m0, if_pos a1, if_pos m1, if_pos a2, if_pos m2, if_neg a3, if_neg m3]
  have hL := rW_lay (t := tr) h
  generalize s_X7_lay_t pg tr = w0 at hL ⊢
  obtain ⟨⟨h0, h1, h2, h3, h4, h5, h6, h7, h8, h9, h10, h11, h12, h13, h14, h15⟩, ⟨i0, i1, i2, i3, i4, i5, i6, i7, i8, i9, i10, i11, i12, i13, i14, i15⟩, c, d, e, f, i, l⟩ := hL
  have hw : rW (kg (s_X0_leaveOnly_X (gN 0) 1 0) (s_X0_leaveOnly_X (gN 1) 0 1) (gN 2) (gN 3) (gN 4)) (upd (upd (upd (upd (upd (upd (upd (upd w0 0 (w0 0)) 3 (w0 3)) 1 1) 4 1) 16 1) 19 1) 17 ((upd (upd (upd (upd (upd (upd w0 0 (w0 0)) 3 (w0 3)) 1 1) 4 1) 16 1) 19 1) 17)) 20 ((upd (upd (upd (upd (upd (upd w0 0 (w0 0)) 3 (w0 3)) 1 1) 4 1) 16 1) 19 1) 20)) := by
    refine ⟨?_, ?_, c, d, e, ⟨b_s_X0_leaveOnly_X _ _ _ f.1, b_s_X0_leaveOnly_X _ _ _ f.2.1, f.2.2⟩, ⟨pE_leave i.1, pE_leave i.2⟩, l⟩
    · show rE0 (s_X0_leaveOnly_X (gN 0) 1 0) _
      unfold s_X0_leaveOnly_X
      rw [if_neg (by decide), if_pos rfl]
      exact ⟨(by first | exact h0 | rfl), (by first | exact h1 | rfl), h2, (by first | exact h3 | rfl), (by first | exact h4 | rfl), h5, h6, h7, h8, h9, h10, h11, h12, h13, h14, h15⟩
    · show rE16 (s_X0_leaveOnly_X (gN 1) 0 1) _
      unfold s_X0_leaveOnly_X
      rw [if_pos rfl, if_neg (by decide)]
      exact ⟨(by first | exact i0 | rfl), (by first | exact i1 | rfl), i2, (by first | exact i3 | rfl), (by first | exact i4 | rfl), i5, i6, i7, i8, i9, i10, i11, i12, i13, i14, i15⟩
  generalize (60 : Int32) = k60
  have := (rW_run hw (nZ_lay Z) k60).1.2.2.2.2.1.2.1
  rw [h53, ← this]
set_option maxHeartbeats 2000000 in
theorem q_sent_10 {gN : Nat → Nat → Int32} {pg : Nat → Int32} (h : rW gN pg) (Z tr : Nat → Int32) : r_X6_sentWith gN (nI 10) = r_X7_sentBy Z pg tr (nI 10) - pg 53 := by
  have a0 : (nI 10 &&& 1 = 0) := by decide
  have m0 : (r_X7_has (nI 10) 0 = 0) := by decide
  have a1 : ¬ (nI 10 &&& 2 = 0) := by decide
  have m1 : ¬ (r_X7_has (nI 10) 1 = 0) := by decide
  have a2 : (nI 10 &&& 4 = 0) := by decide
  have m2 : (r_X7_has (nI 10) 2 = 0) := by decide
  have a3 : ¬ (nI 10 &&& 8 = 0) := by decide
  have m3 : ¬ (r_X7_has (nI 10) 3 = 0) := by decide
  have h53 : pg 53 = gN 4 1 := h.2.2.2.2.1.2.1
  unfold r_X6_sentWith r_X7_sentBy t_X7_sentBy_3_tr t_X7_sentBy_2_tr t_X7_sentBy_1_tr
  simp only [if_pos a0, if_pos m0, if_neg a1, if_neg m1, if_pos a2, if_pos m2, if_neg a3, if_neg m3]
  have hL := rW_lay (t := tr) h
  generalize s_X7_lay_t pg tr = w0 at hL ⊢
  obtain ⟨⟨h0, h1, h2, h3, h4, h5, h6, h7, h8, h9, h10, h11, h12, h13, h14, h15⟩, ⟨i0, i1, i2, i3, i4, i5, i6, i7, i8, i9, i10, i11, i12, i13, i14, i15⟩, c, d, e, f, i, l⟩ := hL
  have hw : rW (kg (s_X0_leaveOnly_X (gN 0) 0 1) (s_X0_leaveOnly_X (gN 1) 0 1) (gN 2) (gN 3) (gN 4)) (upd (upd (upd (upd (upd (upd (upd (upd w0 0 1) 3 1) 1 ((upd (upd w0 0 1) 3 1) 1)) 4 ((upd (upd w0 0 1) 3 1) 4)) 16 1) 19 1) 17 ((upd (upd (upd (upd (upd (upd w0 0 1) 3 1) 1 ((upd (upd w0 0 1) 3 1) 1)) 4 ((upd (upd w0 0 1) 3 1) 4)) 16 1) 19 1) 17)) 20 ((upd (upd (upd (upd (upd (upd w0 0 1) 3 1) 1 ((upd (upd w0 0 1) 3 1) 1)) 4 ((upd (upd w0 0 1) 3 1) 4)) 16 1) 19 1) 20)) := by
    refine ⟨?_, ?_, c, d, e, ⟨b_s_X0_leaveOnly_X _ _ _ f.1, b_s_X0_leaveOnly_X _ _ _ f.2.1, f.2.2⟩, ⟨pE_leave i.1, pE_leave i.2⟩, l⟩
    · show rE0 (s_X0_leaveOnly_X (gN 0) 0 1) _
      unfold s_X0_leaveOnly_X
      rw [if_pos rfl, if_neg (by decide)]
      exact ⟨(by first | exact h0 | rfl), (by first | exact h1 | rfl), h2, (by first | exact h3 | rfl), (by first | exact h4 | rfl), h5, h6, h7, h8, h9, h10, h11, h12, h13, h14, h15⟩
    · show rE16 (s_X0_leaveOnly_X (gN 1) 0 1) _
      unfold s_X0_leaveOnly_X
      rw [if_pos rfl, if_neg (by decide)]
      exact ⟨(by first | exact i0 | rfl), (by first | exact i1 | rfl), i2, (by first | exact i3 | rfl), (by first | exact i4 | rfl), i5, i6, i7, i8, i9, i10, i11, i12, i13, i14, i15⟩
  generalize (60 : Int32) = k60
  have := (rW_run hw (nZ_lay Z) k60).1.2.2.2.2.1.2.1
  rw [h53, ← this]
set_option maxHeartbeats 2000000 in
theorem q_sent_11 {gN : Nat → Nat → Int32} {pg : Nat → Int32} (h : rW gN pg) (Z tr : Nat → Int32) : r_X6_sentWith gN (nI 11) = r_X7_sentBy Z pg tr (nI 11) - pg 53 := by
  have a0 : ¬ (nI 11 &&& 1 = 0) := by decide
  have m0 : ¬ (r_X7_has (nI 11) 0 = 0) := by decide
  have a1 : ¬ (nI 11 &&& 2 = 0) := by decide
  have m1 : ¬ (r_X7_has (nI 11) 1 = 0) := by decide
  have a2 : (nI 11 &&& 4 = 0) := by decide
  have m2 : (r_X7_has (nI 11) 2 = 0) := by decide
  have a3 : ¬ (nI 11 &&& 8 = 0) := by decide
  have m3 : ¬ (r_X7_has (nI 11) 3 = 0) := by decide
  have h53 : pg 53 = gN 4 1 := h.2.2.2.2.1.2.1
  unfold r_X6_sentWith r_X7_sentBy t_X7_sentBy_3_tr t_X7_sentBy_2_tr t_X7_sentBy_1_tr
  simp only [if_neg a0, if_neg m0, if_neg a1, if_neg m1, if_pos a2, if_pos m2, if_neg a3, if_neg m3]
  have hL := rW_lay (t := tr) h
  generalize s_X7_lay_t pg tr = w0 at hL ⊢
  obtain ⟨⟨h0, h1, h2, h3, h4, h5, h6, h7, h8, h9, h10, h11, h12, h13, h14, h15⟩, ⟨i0, i1, i2, i3, i4, i5, i6, i7, i8, i9, i10, i11, i12, i13, i14, i15⟩, c, d, e, f, i, l⟩ := hL
  have hw : rW (kg (s_X0_leaveOnly_X (gN 0) 1 1) (s_X0_leaveOnly_X (gN 1) 0 1) (gN 2) (gN 3) (gN 4)) (upd (upd (upd (upd (upd (upd (upd (upd w0 0 (w0 0)) 3 (w0 3)) 1 ((upd (upd w0 0 (w0 0)) 3 (w0 3)) 1)) 4 ((upd (upd w0 0 (w0 0)) 3 (w0 3)) 4)) 16 1) 19 1) 17 ((upd (upd (upd (upd (upd (upd w0 0 (w0 0)) 3 (w0 3)) 1 ((upd (upd w0 0 (w0 0)) 3 (w0 3)) 1)) 4 ((upd (upd w0 0 (w0 0)) 3 (w0 3)) 4)) 16 1) 19 1) 17)) 20 ((upd (upd (upd (upd (upd (upd w0 0 (w0 0)) 3 (w0 3)) 1 ((upd (upd w0 0 (w0 0)) 3 (w0 3)) 1)) 4 ((upd (upd w0 0 (w0 0)) 3 (w0 3)) 4)) 16 1) 19 1) 20)) := by
    refine ⟨?_, ?_, c, d, e, ⟨b_s_X0_leaveOnly_X _ _ _ f.1, b_s_X0_leaveOnly_X _ _ _ f.2.1, f.2.2⟩, ⟨pE_leave i.1, pE_leave i.2⟩, l⟩
    · show rE0 (s_X0_leaveOnly_X (gN 0) 1 1) _
      unfold s_X0_leaveOnly_X
      rw [if_neg (by decide), if_neg (by decide)]
      exact ⟨(by first | exact h0 | rfl), (by first | exact h1 | rfl), h2, (by first | exact h3 | rfl), (by first | exact h4 | rfl), h5, h6, h7, h8, h9, h10, h11, h12, h13, h14, h15⟩
    · show rE16 (s_X0_leaveOnly_X (gN 1) 0 1) _
      unfold s_X0_leaveOnly_X
      rw [if_pos rfl, if_neg (by decide)]
      exact ⟨(by first | exact i0 | rfl), (by first | exact i1 | rfl), i2, (by first | exact i3 | rfl), (by first | exact i4 | rfl), i5, i6, i7, i8, i9, i10, i11, i12, i13, i14, i15⟩
  generalize (60 : Int32) = k60
  have := (rW_run hw (nZ_lay Z) k60).1.2.2.2.2.1.2.1
  rw [h53, ← this]
set_option maxHeartbeats 2000000 in
theorem q_sent_12 {gN : Nat → Nat → Int32} {pg : Nat → Int32} (h : rW gN pg) (Z tr : Nat → Int32) : r_X6_sentWith gN (nI 12) = r_X7_sentBy Z pg tr (nI 12) - pg 53 := by
  have a0 : (nI 12 &&& 1 = 0) := by decide
  have m0 : (r_X7_has (nI 12) 0 = 0) := by decide
  have a1 : (nI 12 &&& 2 = 0) := by decide
  have m1 : (r_X7_has (nI 12) 1 = 0) := by decide
  have a2 : ¬ (nI 12 &&& 4 = 0) := by decide
  have m2 : ¬ (r_X7_has (nI 12) 2 = 0) := by decide
  have a3 : ¬ (nI 12 &&& 8 = 0) := by decide
  have m3 : ¬ (r_X7_has (nI 12) 3 = 0) := by decide
  have h53 : pg 53 = gN 4 1 := h.2.2.2.2.1.2.1
  unfold r_X6_sentWith r_X7_sentBy t_X7_sentBy_3_tr t_X7_sentBy_2_tr t_X7_sentBy_1_tr
  simp only [if_pos a0, if_pos m0, if_pos a1, if_pos m1, if_neg a2, if_neg m2, if_neg a3, if_neg m3]
  have hL := rW_lay (t := tr) h
  generalize s_X7_lay_t pg tr = w0 at hL ⊢
  obtain ⟨⟨h0, h1, h2, h3, h4, h5, h6, h7, h8, h9, h10, h11, h12, h13, h14, h15⟩, ⟨i0, i1, i2, i3, i4, i5, i6, i7, i8, i9, i10, i11, i12, i13, i14, i15⟩, c, d, e, f, i, l⟩ := hL
  have hw : rW (kg (s_X0_leaveOnly_X (gN 0) 0 0) (s_X0_leaveOnly_X (gN 1) 1 1) (gN 2) (gN 3) (gN 4)) (upd (upd (upd (upd (upd (upd (upd (upd w0 0 1) 3 1) 1 1) 4 1) 16 ((upd (upd w0 0 1) 3 1) 16)) 19 ((upd (upd w0 0 1) 3 1) 19)) 17 ((upd (upd (upd (upd (upd (upd w0 0 1) 3 1) 1 1) 4 1) 16 ((upd (upd w0 0 1) 3 1) 16)) 19 ((upd (upd w0 0 1) 3 1) 19)) 17)) 20 ((upd (upd (upd (upd (upd (upd w0 0 1) 3 1) 1 1) 4 1) 16 ((upd (upd w0 0 1) 3 1) 16)) 19 ((upd (upd w0 0 1) 3 1) 19)) 20)) := by
    refine ⟨?_, ?_, c, d, e, ⟨b_s_X0_leaveOnly_X _ _ _ f.1, b_s_X0_leaveOnly_X _ _ _ f.2.1, f.2.2⟩, ⟨pE_leave i.1, pE_leave i.2⟩, l⟩
    · show rE0 (s_X0_leaveOnly_X (gN 0) 0 0) _
      unfold s_X0_leaveOnly_X
      rw [if_pos rfl, if_pos rfl]
      exact ⟨(by first | exact h0 | rfl), (by first | exact h1 | rfl), h2, (by first | exact h3 | rfl), (by first | exact h4 | rfl), h5, h6, h7, h8, h9, h10, h11, h12, h13, h14, h15⟩
    · show rE16 (s_X0_leaveOnly_X (gN 1) 1 1) _
      unfold s_X0_leaveOnly_X
      rw [if_neg (by decide), if_neg (by decide)]
      exact ⟨(by first | exact i0 | rfl), (by first | exact i1 | rfl), i2, (by first | exact i3 | rfl), (by first | exact i4 | rfl), i5, i6, i7, i8, i9, i10, i11, i12, i13, i14, i15⟩
  generalize (60 : Int32) = k60
  have := (rW_run hw (nZ_lay Z) k60).1.2.2.2.2.1.2.1
  rw [h53, ← this]
set_option maxHeartbeats 2000000 in
theorem q_sent_13 {gN : Nat → Nat → Int32} {pg : Nat → Int32} (h : rW gN pg) (Z tr : Nat → Int32) : r_X6_sentWith gN (nI 13) = r_X7_sentBy Z pg tr (nI 13) - pg 53 := by
  have a0 : ¬ (nI 13 &&& 1 = 0) := by decide
  have m0 : ¬ (r_X7_has (nI 13) 0 = 0) := by decide
  have a1 : (nI 13 &&& 2 = 0) := by decide
  have m1 : (r_X7_has (nI 13) 1 = 0) := by decide
  have a2 : ¬ (nI 13 &&& 4 = 0) := by decide
  have m2 : ¬ (r_X7_has (nI 13) 2 = 0) := by decide
  have a3 : ¬ (nI 13 &&& 8 = 0) := by decide
  have m3 : ¬ (r_X7_has (nI 13) 3 = 0) := by decide
  have h53 : pg 53 = gN 4 1 := h.2.2.2.2.1.2.1
  unfold r_X6_sentWith r_X7_sentBy t_X7_sentBy_3_tr t_X7_sentBy_2_tr t_X7_sentBy_1_tr
  simp only [if_neg a0, if_neg m0, if_pos a1, if_pos m1, if_neg a2, if_neg m2, if_neg a3, if_neg m3]
  have hL := rW_lay (t := tr) h
  generalize s_X7_lay_t pg tr = w0 at hL ⊢
  obtain ⟨⟨h0, h1, h2, h3, h4, h5, h6, h7, h8, h9, h10, h11, h12, h13, h14, h15⟩, ⟨i0, i1, i2, i3, i4, i5, i6, i7, i8, i9, i10, i11, i12, i13, i14, i15⟩, c, d, e, f, i, l⟩ := hL
  have hw : rW (kg (s_X0_leaveOnly_X (gN 0) 1 0) (s_X0_leaveOnly_X (gN 1) 1 1) (gN 2) (gN 3) (gN 4)) (upd (upd (upd (upd (upd (upd (upd (upd w0 0 (w0 0)) 3 (w0 3)) 1 1) 4 1) 16 ((upd (upd w0 0 (w0 0)) 3 (w0 3)) 16)) 19 ((upd (upd w0 0 (w0 0)) 3 (w0 3)) 19)) 17 ((upd (upd (upd (upd (upd (upd w0 0 (w0 0)) 3 (w0 3)) 1 1) 4 1) 16 ((upd (upd w0 0 (w0 0)) 3 (w0 3)) 16)) 19 ((upd (upd w0 0 (w0 0)) 3 (w0 3)) 19)) 17)) 20 ((upd (upd (upd (upd (upd (upd w0 0 (w0 0)) 3 (w0 3)) 1 1) 4 1) 16 ((upd (upd w0 0 (w0 0)) 3 (w0 3)) 16)) 19 ((upd (upd w0 0 (w0 0)) 3 (w0 3)) 19)) 20)) := by
    refine ⟨?_, ?_, c, d, e, ⟨b_s_X0_leaveOnly_X _ _ _ f.1, b_s_X0_leaveOnly_X _ _ _ f.2.1, f.2.2⟩, ⟨pE_leave i.1, pE_leave i.2⟩, l⟩
    · show rE0 (s_X0_leaveOnly_X (gN 0) 1 0) _
      unfold s_X0_leaveOnly_X
      rw [if_neg (by decide), if_pos rfl]
      exact ⟨(by first | exact h0 | rfl), (by first | exact h1 | rfl), h2, (by first | exact h3 | rfl), (by first | exact h4 | rfl), h5, h6, h7, h8, h9, h10, h11, h12, h13, h14, h15⟩
    · show rE16 (s_X0_leaveOnly_X (gN 1) 1 1) _
      unfold s_X0_leaveOnly_X
      rw [if_neg (by decide), if_neg (by decide)]
      exact ⟨(by first | exact i0 | rfl), (by first | exact i1 | rfl), i2, (by first | exact i3 | rfl), (by first | exact i4 | rfl), i5, i6, i7, i8, i9, i10, i11, i12, i13, i14, i15⟩
  generalize (60 : Int32) = k60
  have := (rW_run hw (nZ_lay Z) k60).1.2.2.2.2.1.2.1
  rw [h53, ← this]
set_option maxHeartbeats 2000000 in
theorem q_sent_14 {gN : Nat → Nat → Int32} {pg : Nat → Int32} (h : rW gN pg) (Z tr : Nat → Int32) : r_X6_sentWith gN (nI 14) = r_X7_sentBy Z pg tr (nI 14) - pg 53 := by
  have a0 : (nI 14 &&& 1 = 0) := by decide
  have m0 : (r_X7_has (nI 14) 0 = 0) := by decide
  have a1 : ¬ (nI 14 &&& 2 = 0) := by decide
  have m1 : ¬ (r_X7_has (nI 14) 1 = 0) := by decide
  have a2 : ¬ (nI 14 &&& 4 = 0) := by decide
  have m2 : ¬ (r_X7_has (nI 14) 2 = 0) := by decide
  have a3 : ¬ (nI 14 &&& 8 = 0) := by decide
  have m3 : ¬ (r_X7_has (nI 14) 3 = 0) := by decide
  have h53 : pg 53 = gN 4 1 := h.2.2.2.2.1.2.1
  unfold r_X6_sentWith r_X7_sentBy t_X7_sentBy_3_tr t_X7_sentBy_2_tr t_X7_sentBy_1_tr
  simp only [if_pos a0, if_pos m0, if_neg a1, if_neg m1, if_neg a2, if_neg m2, if_neg a3, if_neg m3]
  have hL := rW_lay (t := tr) h
  generalize s_X7_lay_t pg tr = w0 at hL ⊢
  obtain ⟨⟨h0, h1, h2, h3, h4, h5, h6, h7, h8, h9, h10, h11, h12, h13, h14, h15⟩, ⟨i0, i1, i2, i3, i4, i5, i6, i7, i8, i9, i10, i11, i12, i13, i14, i15⟩, c, d, e, f, i, l⟩ := hL
  have hw : rW (kg (s_X0_leaveOnly_X (gN 0) 0 1) (s_X0_leaveOnly_X (gN 1) 1 1) (gN 2) (gN 3) (gN 4)) (upd (upd (upd (upd (upd (upd (upd (upd w0 0 1) 3 1) 1 ((upd (upd w0 0 1) 3 1) 1)) 4 ((upd (upd w0 0 1) 3 1) 4)) 16 ((upd (upd w0 0 1) 3 1) 16)) 19 ((upd (upd w0 0 1) 3 1) 19)) 17 ((upd (upd (upd (upd (upd (upd w0 0 1) 3 1) 1 ((upd (upd w0 0 1) 3 1) 1)) 4 ((upd (upd w0 0 1) 3 1) 4)) 16 ((upd (upd w0 0 1) 3 1) 16)) 19 ((upd (upd w0 0 1) 3 1) 19)) 17)) 20 ((upd (upd (upd (upd (upd (upd w0 0 1) 3 1) 1 ((upd (upd w0 0 1) 3 1) 1)) 4 ((upd (upd w0 0 1) 3 1) 4)) 16 ((upd (upd w0 0 1) 3 1) 16)) 19 ((upd (upd w0 0 1) 3 1) 19)) 20)) := by
    refine ⟨?_, ?_, c, d, e, ⟨b_s_X0_leaveOnly_X _ _ _ f.1, b_s_X0_leaveOnly_X _ _ _ f.2.1, f.2.2⟩, ⟨pE_leave i.1, pE_leave i.2⟩, l⟩
    · show rE0 (s_X0_leaveOnly_X (gN 0) 0 1) _
      unfold s_X0_leaveOnly_X
      rw [if_pos rfl, if_neg (by decide)]
      exact ⟨(by first | exact h0 | rfl), (by first | exact h1 | rfl), h2, (by first | exact h3 | rfl), (by first | exact h4 | rfl), h5, h6, h7, h8, h9, h10, h11, h12, h13, h14, h15⟩
    · show rE16 (s_X0_leaveOnly_X (gN 1) 1 1) _
      unfold s_X0_leaveOnly_X
      rw [if_neg (by decide), if_neg (by decide)]
      exact ⟨(by first | exact i0 | rfl), (by first | exact i1 | rfl), i2, (by first | exact i3 | rfl), (by first | exact i4 | rfl), i5, i6, i7, i8, i9, i10, i11, i12, i13, i14, i15⟩
  generalize (60 : Int32) = k60
  have := (rW_run hw (nZ_lay Z) k60).1.2.2.2.2.1.2.1
  rw [h53, ← this]
set_option maxHeartbeats 2000000 in
theorem q_sent_15 {gN : Nat → Nat → Int32} {pg : Nat → Int32} (h : rW gN pg) (Z tr : Nat → Int32) : r_X6_sentWith gN (nI 15) = r_X7_sentBy Z pg tr (nI 15) - pg 53 := by
  have a0 : ¬ (nI 15 &&& 1 = 0) := by decide
  have m0 : ¬ (r_X7_has (nI 15) 0 = 0) := by decide
  have a1 : ¬ (nI 15 &&& 2 = 0) := by decide
  have m1 : ¬ (r_X7_has (nI 15) 1 = 0) := by decide
  have a2 : ¬ (nI 15 &&& 4 = 0) := by decide
  have m2 : ¬ (r_X7_has (nI 15) 2 = 0) := by decide
  have a3 : ¬ (nI 15 &&& 8 = 0) := by decide
  have m3 : ¬ (r_X7_has (nI 15) 3 = 0) := by decide
  have h53 : pg 53 = gN 4 1 := h.2.2.2.2.1.2.1
  unfold r_X6_sentWith r_X7_sentBy t_X7_sentBy_3_tr t_X7_sentBy_2_tr t_X7_sentBy_1_tr
  simp only [if_neg a0, if_neg m0, if_neg a1, if_neg m1, if_neg a2, if_neg m2, if_neg a3, if_neg m3]
  have hL := rW_lay (t := tr) h
  generalize s_X7_lay_t pg tr = w0 at hL ⊢
  obtain ⟨⟨h0, h1, h2, h3, h4, h5, h6, h7, h8, h9, h10, h11, h12, h13, h14, h15⟩, ⟨i0, i1, i2, i3, i4, i5, i6, i7, i8, i9, i10, i11, i12, i13, i14, i15⟩, c, d, e, f, i, l⟩ := hL
  have hw : rW (kg (s_X0_leaveOnly_X (gN 0) 1 1) (s_X0_leaveOnly_X (gN 1) 1 1) (gN 2) (gN 3) (gN 4)) (upd (upd (upd (upd (upd (upd (upd (upd w0 0 (w0 0)) 3 (w0 3)) 1 ((upd (upd w0 0 (w0 0)) 3 (w0 3)) 1)) 4 ((upd (upd w0 0 (w0 0)) 3 (w0 3)) 4)) 16 ((upd (upd w0 0 (w0 0)) 3 (w0 3)) 16)) 19 ((upd (upd w0 0 (w0 0)) 3 (w0 3)) 19)) 17 ((upd (upd (upd (upd (upd (upd w0 0 (w0 0)) 3 (w0 3)) 1 ((upd (upd w0 0 (w0 0)) 3 (w0 3)) 1)) 4 ((upd (upd w0 0 (w0 0)) 3 (w0 3)) 4)) 16 ((upd (upd w0 0 (w0 0)) 3 (w0 3)) 16)) 19 ((upd (upd w0 0 (w0 0)) 3 (w0 3)) 19)) 17)) 20 ((upd (upd (upd (upd (upd (upd w0 0 (w0 0)) 3 (w0 3)) 1 ((upd (upd w0 0 (w0 0)) 3 (w0 3)) 1)) 4 ((upd (upd w0 0 (w0 0)) 3 (w0 3)) 4)) 16 ((upd (upd w0 0 (w0 0)) 3 (w0 3)) 16)) 19 ((upd (upd w0 0 (w0 0)) 3 (w0 3)) 19)) 20)) := by
    refine ⟨?_, ?_, c, d, e, ⟨b_s_X0_leaveOnly_X _ _ _ f.1, b_s_X0_leaveOnly_X _ _ _ f.2.1, f.2.2⟩, ⟨pE_leave i.1, pE_leave i.2⟩, l⟩
    · show rE0 (s_X0_leaveOnly_X (gN 0) 1 1) _
      unfold s_X0_leaveOnly_X
      rw [if_neg (by decide), if_neg (by decide)]
      exact ⟨(by first | exact h0 | rfl), (by first | exact h1 | rfl), h2, (by first | exact h3 | rfl), (by first | exact h4 | rfl), h5, h6, h7, h8, h9, h10, h11, h12, h13, h14, h15⟩
    · show rE16 (s_X0_leaveOnly_X (gN 1) 1 1) _
      unfold s_X0_leaveOnly_X
      rw [if_neg (by decide), if_neg (by decide)]
      exact ⟨(by first | exact i0 | rfl), (by first | exact i1 | rfl), i2, (by first | exact i3 | rfl), (by first | exact i4 | rfl), i5, i6, i7, i8, i9, i10, i11, i12, i13, i14, i15⟩
  generalize (60 : Int32) = k60
  have := (rW_run hw (nZ_lay Z) k60).1.2.2.2.2.1.2.1
  rw [h53, ← this]
theorem q_sent {gN : Nat → Nat → Int32} {pg : Nat → Int32} (h : rW gN pg) {j : Nat} (hj : j < 16) (Z tr : Nat → Int32) : r_X6_sentWith gN (nI j) = r_X7_sentBy Z pg tr (nI j) - pg 53 := by
  rcases (show j = 0 ∨ j = 1 ∨ j = 2 ∨ j = 3 ∨ j = 4 ∨ j = 5 ∨ j = 6 ∨ j = 7 ∨ j = 8 ∨ j = 9 ∨ j = 10 ∨ j = 11 ∨ j = 12 ∨ j = 13 ∨ j = 14 ∨ j = 15 by omega) with rfl | rfl | rfl | rfl | rfl | rfl | rfl | rfl | rfl | rfl | rfl | rfl | rfl | rfl | rfl | rfl
  · exact q_sent_0 h Z tr
  · exact q_sent_1 h Z tr
  · exact q_sent_2 h Z tr
  · exact q_sent_3 h Z tr
  · exact q_sent_4 h Z tr
  · exact q_sent_5 h Z tr
  · exact q_sent_6 h Z tr
  · exact q_sent_7 h Z tr
  · exact q_sent_8 h Z tr
  · exact q_sent_9 h Z tr
  · exact q_sent_10 h Z tr
  · exact q_sent_11 h Z tr
  · exact q_sent_12 h Z tr
  · exact q_sent_13 h Z tr
  · exact q_sent_14 h Z tr
  · exact q_sent_15 h Z tr
theorem kshb : ∀ j : Fin 16, ∀ s : Fin 4, ((nI j.val &&& kShl 1 (nI s.val) = 0) ↔ (r_X7_has (nI j.val) (nI s.val) = 0)) ∧ (r_X7_has (nI j.val) (nI s.val) = 0 → r_X6_ordersBehind (nI j.val) = r_X7_factorial (r_X7_ones (nI j.val)) * r_X7_factorial (3 - r_X7_ones (nI j.val))) ∧ ∃ k : Fin 16, nI j.val ||| kShl 1 (nI s.val) = nI k.val := by decide +kernel
theorem ksubsub (a b x : Int32) : (a - x) - (b - x) = a - b := by
  rw [Int32.sub_eq_add_neg, Int32.sub_eq_add_neg a, Int32.neg_sub, Int32.sub_eq_add_neg x b, Int32.add_assoc, ← Int32.add_assoc (-x), Int32.add_left_neg, Int32.zero_add, ← Int32.sub_eq_add_neg]
theorem q_shl {gN : Nat → Nat → Int32} {pg : Nat → Int32} (h : rW gN pg) {s : Nat} (hs : s < 4) (p1 : Int32) : ∀ (n j : Nat) (fw : Int32) (gT : Nat → Nat → Int32) (Z tr : Nat → Int32), j + n = 16 → kBd (2880 * j) fw → l_X6_share_1_r gN (nI s) p1 n j fw gT = l_X7_share_1_r pg (nI s) p1 n j fw Z tr
  | 0, j, fw, gT, Z, tr, hj, hb => by
    rw [l_X6_share_1_r, l_X7_share_1_r]
    exact q_frac (b := 24) hb (by omega) (by decide) (by decide)
  | n + 1, j, fw, gT, Z, tr, hj, hb => by
    rw [l_X6_share_1_r, l_X7_share_1_r]
    obtain ⟨e1, e2, ⟨k, e3⟩⟩ := kshb ⟨j, by omega⟩ ⟨s, hs⟩
    by_cases c : r_X7_has (nI j) (nI s) = 0
    · rw [if_pos c, if_pos (e1.mpr c)]
      have e3 : nI j ||| kShl 1 (nI s) = nI k.val := e3
      have e4 : r_X6_ordersBehind (nI j) = r_X7_factorial (r_X7_ones (nI j)) * r_X7_factorial (3 - r_X7_ones (nI j)) := e2 c
      rw [e3, e4, q_sent h (j := j) (by omega) Z tr, q_sent h k.isLt (s_X7_sentBy_Z Z pg tr (nI j)) (s_X7_sentBy_tr Z pg tr (nI j)), ksubsub]
      exact q_shl h hs p1 n (j + 1) _ _ _ _ (by omega) (kshare _ _ _ _ _ _ _ (by omega) hb)
    · rw [if_neg c, if_neg (fun q => c (e1.mp q))]
      exact q_shl h hs p1 n (j + 1) _ _ _ _ (by omega) (kBd_le hb (by omega))
theorem q_share {gN : Nat → Nat → Int32} {pg : Nat → Int32} (h : rW gN pg) (gT : Nat → Nat → Int32) (Z tr : Nat → Int32) (p0 p1 : Int32) : r_X6_share gN gT p0 p1 = r_X7_share Z pg tr p0 p1 := by
  unfold r_X6_share r_X7_share
  by_cases c0 : p0 < 0
  · rw [if_pos c0, if_pos ((kin32 (a := 0) (b := 3) rfl rfl).mpr (Or.inl c0))]
  · rw [if_neg c0]
    by_cases c1 : 3 < p0
    · rw [if_neg, if_pos ((kin32 (a := 0) (b := 3) rfl rfl).mpr (Or.inr c1))]
      intro q
      have a := Int32.lt_iff_toInt_lt.mp c1
      have b := Int32.lt_iff_toInt_lt.mp q
      simp at a b
      omega
    · obtain ⟨s, hs, rfl⟩ := knum (N := 3) (by decide) c0 c1
      rw [if_pos (show nI s < 4 from nI_lt (b := 4) (by omega) (by decide)), if_neg (fun q => ((kin32 (a := 0) (b := 3) rfl rfl).mp q).elim c0 c1)]
      exact q_shl h (by omega) p1 16 0 0 gT _ tr rfl (kBd_le kBd_0 (by omega))
/-! chances -/
theorem kpower : ∀ (n j : Nat) (a v : Int32), l_X6_power_1_r a n j v = l_X7_power_1_r a n j v
  | 0, _, _, _ => by rw [l_X6_power_1_r, l_X7_power_1_r]
  | n + 1, j, a, v => by rw [l_X6_power_1_r, l_X7_power_1_r, kpower n (j + 1)]
theorem kpower2 (a b : Int32) : r_X6_power a b = r_X7_power a b := kpower _ _ _ _
