/-! the whole of the class beside the whole of the reference -/
def rK (ik jk : Nat → Int32) (gS0 gS1 : Nat → Nat → Int32) (kp : Nat → Int32) : Prop := kb (ik 0) ∧ kb (ik 1) ∧ jk 0 = ik 0 ∧ jk 1 = ik 1 ∧ bW gS0 ∧ bW gS1 ∧ (ik 0 = 1 → rW gS0 (fun k => kp (0 + k))) ∧ (ik 1 = 1 → rW gS1 (fun k => kp (55 + k)))
def rV (z : Nat) (tk en mo sa se sm : Nat → Int32) : Prop := ∀ i, i < z → sa i = tk i ∧ se i = en i ∧ sm i = mo i ∧ (en i = 0 ∨ en i = 1) ∧ ¬ tk i < 0 ∧ ¬ 99 < tk i
def rR (n9 d L z : Nat) (pi : Nat → Nat) (sg ik tk en mo : Nat → Int32) (gN gS0 gS1 : Nat → Nat → Int32) (gB : Nat → Nat → Nat → Int32) (Z tx pg bk kp jk sa se sm : Nat → Int32) : Prop := n9 = 14 ∧ d ≤ 14 ∧ L ≤ 70 ∧ z ≤ 6 ∧ (Z 2 = nI L ∧ Z 10 = nI d ∧ Z 13 = nI z) ∧ rW gN pg ∧ rB d pi gB bk ∧ (∀ i, i < L → tx i = sg i) ∧ rK ik jk gS0 gS1 kp ∧ rV z tk en mo sa se sm
theorem rR_act {n9 d L z : Nat} {pi : Nat → Nat} {sg ik tk en mo : Nat → Int32} {gN gS0 gS1 : Nat → Nat → Int32} {gB : Nat → Nat → Nat → Int32} {Z tx pg bk kp jk sa se sm : Nat → Int32} (h : rR n9 d L z pi sg ik tk en mo gN gS0 gS1 gB Z tx pg bk kp jk sa se sm) {d1 : Nat} {pi1 : Nat → Nat} {gN1 : Nat → Nat → Int32} {gB1 : Nat → Nat → Nat → Int32} {Z1 pg1 bk1 : Nat → Int32} (hd : d1 ≤ 14) (hw : rW gN1 pg1) (hB : rB d1 pi1 gB1 bk1) (h10 : Z1 10 = nI d1) (hZ : ∀ k, k = 2 ∨ k = 13 → Z1 k = Z k) : rR n9 d1 L z pi1 sg ik tk en mo gN1 gS0 gS1 gB1 Z1 tx pg1 bk1 kp jk sa se sm := by
  obtain ⟨a, b, c, e, ⟨f1, f2, f3⟩, g, i, j, k, l⟩ := h
  exact ⟨a, hd, c, e, ⟨(hZ 2 (Or.inl rfl)).trans f1, h10, (hZ 13 (Or.inr rfl)).trans f3⟩, hw, hB, j, k, l⟩
/-- nothing is done but scratch -/
theorem rR_Z {n9 d L z : Nat} {pi : Nat → Nat} {sg ik tk en mo : Nat → Int32} {gN gS0 gS1 : Nat → Nat → Int32} {gB : Nat → Nat → Nat → Int32} {Z tx pg bk kp jk sa se sm : Nat → Int32} (h : rR n9 d L z pi sg ik tk en mo gN gS0 gS1 gB Z tx pg bk kp jk sa se sm) {Z1 : Nat → Int32} (hZ : ∀ k, k = 2 ∨ k = 10 ∨ k = 13 → Z1 k = Z k) : rR n9 d L z pi sg ik tk en mo gN gS0 gS1 gB Z1 tx pg bk kp jk sa se sm := by
  obtain ⟨a, b, c, e, ⟨f1, f2, f3⟩, r⟩ := h
  exact ⟨a, b, c, e, ⟨(hZ 2 (Or.inl rfl)).trans f1, (hZ 10 (Or.inr (Or.inl rfl))).trans f2, (hZ 13 (Or.inr (Or.inr rfl))).trans f3⟩, r⟩
theorem kZ0 {Z : Nat → Int32} {d : Nat} (h : Z 10 = nI d) : ∀ k, k = 2 ∨ k = 10 ∨ k = 13 → (upd (upd Z 10 (nI d)) 0 0) k = Z k := fun k hk => by
  rcases hk with rfl | rfl | rfl
  · rfl
  · exact h.symm
  · rfl
theorem kZn (Z : Nat → Int32) (d : Nat) : (upd (upd Z 0 0) 10 (nI d)) 10 = nI d ∧ ∀ k, k = 2 ∨ k = 13 → (upd (upd Z 0 0) 10 (nI d)) k = Z k := ⟨rfl, fun k hk => by rcases hk with rfl | rfl <;> rfl⟩
theorem lpass_pg : ∀ (n j : Nat) (Z pg : Nat → Int32), l_X7_pass_1_pg n j Z pg = l_X7_goFor_1_f n j Z pg
  | 0, _, _, _ => by rw [l_X7_pass_1_pg, l_X7_goFor_1_f]
  | n + 1, j, Z, pg => by rw [l_X7_pass_1_pg, l_X7_goFor_1_f, lpass_pg n (j + 1)]
theorem lpass_Z : ∀ (n j : Nat) (Z pg : Nat → Int32), l_X7_pass_1_Z n j Z pg = l_X7_goFor_1_Z n j Z pg
  | 0, _, _, _ => by rw [l_X7_pass_1_Z, l_X7_goFor_1_Z]
  | n + 1, j, Z, pg => by rw [l_X7_pass_1_Z, l_X7_goFor_1_Z, lpass_Z n (j + 1)]
theorem lpass_r : ∀ (n j : Nat) (Z pg : Nat → Int32), l_X7_pass_1_r n j Z pg = l_X7_goFor_1_f n j Z pg 52
  | 0, _, _, _ => by rw [l_X7_pass_1_r, l_X7_goFor_1_f]
  | n + 1, j, Z, pg => by rw [l_X7_pass_1_r, l_X7_goFor_1_f, lpass_r n (j + 1)]
theorem lpass_bk (d : Nat) (p bk : Nat → Int32) : ∀ (n j : Nat) (Z pg : Nat → Int32), l_X7_pass_1_bk d p bk n j Z pg = kNoteB d bk p
  | 0, _, _, _ => by rw [l_X7_pass_1_bk]
  | n + 1, j, Z, pg => by rw [l_X7_pass_1_bk, lpass_bk d p bk n (j + 1)]
theorem st_pass {n9 d L z : Nat} {pi : Nat → Nat} {sg ik tk en mo : Nat → Int32} {gN gS0 gS1 : Nat → Nat → Int32} {gB : Nat → Nat → Nat → Int32} {Z tx pg bk kp jk sa se sm : Nat → Int32} (h : rR n9 d L z pi sg ik tk en mo gN gS0 gS1 gB Z tx pg bk kp jk sa se sm) (p0 : Int32) : r_X6_pass gN p0 = r_X7_pass Z d pg p0 ∧ ∃ (d1 : Nat) (pi1 : Nat → Nat), s_X6_pass_ac d p0 = kc (nI d1) ∧ (∀ aB, s_X6_pass_bo d pi aB p0 = kAO aB pi1) ∧ rR n9 d1 L z pi1 sg ik tk en mo (s_X6_pass_gN gN p0) gS0 gS1 (s_X6_pass_gB d pi gN gB p0) (s_X7_pass_Z Z d pg p0) tx (s_X7_pass_pg Z d pg p0) (s_X7_pass_bk Z d pg bk p0) kp jk sa se sm := by
  have hh := h
  obtain ⟨_, hd, _, _, ⟨_, f2, _⟩, hw, hB, _⟩ := h
  unfold r_X6_pass r_X7_pass s_X6_pass_ac s_X6_pass_bo s_X6_pass_gN s_X6_pass_gB s_X7_pass_Z s_X7_pass_pg s_X7_pass_bk
  by_cases c0 : p0 < 1
  · have q := (kin32 (x := p0) (a := 1) (b := 30) (A := 1) (B := 30) rfl rfl).mpr (Or.inl c0)
    simp only [if_pos c0, if_pos q]
    exact ⟨by first | trivial | rfl, d, pi, rfl, fun _ => rfl, rR_Z hh (kZ0 f2)⟩
  · by_cases c1 : 30 < p0
    · have q := (kin32 (x := p0) (a := 1) (b := 30) (A := 1) (B := 30) rfl rfl).mpr (Or.inr c1)
      simp only [if_neg c0, if_neg (Int32.not_le.mpr c1), if_pos q]
      exact ⟨by first | trivial | rfl, d, pi, rfl, fun _ => rfl, rR_Z hh (kZ0 f2)⟩
    · have q : ¬ r_X7_in p0.toInt64 1 30 = 0 := fun q => ((kin32 (a := 1) (b := 30) rfl rfl).mp q).elim c0 c1
      simp only [if_neg c0, if_pos (Int32.not_lt.mp c1), if_neg q, lpass_pg, lpass_Z, lpass_r, lpass_bk]
      have hr := rW_go p0.toNatClampNeg 0 0 hw (nZ_lay (upd (upd Z 0 0) 10 (nI (kNoteD d))))
      refine ⟨hr.1.2.2.2.2.1.1.symm, kNoteD d, kPi d pi, rfl, fun _ => rfl, rR_act hh (kNoteD_le hd) hr.1 (rB_note hB hd hw) ?_ (fun k hk => ?_)⟩
      · rw [zgo 10 (by decide) (by decide)]; rfl
      · rw [zgo k (by omega) (by omega)]
        rcases hk with rfl | rfl <;> rfl
theorem st_tell_0 {n9 d L z : Nat} {pi : Nat → Nat} {sg ik tk en mo : Nat → Int32} {gN gS0 gS1 : Nat → Nat → Int32} {gB : Nat → Nat → Nat → Int32} {Z tx pg bk kp jk sa se sm : Nat → Int32} (h : rR n9 d L z pi sg ik tk en mo gN gS0 gS1 gB Z tx pg bk kp jk sa se sm) (p1 p2 : Int32) : r_X6_tell gN 0 p1 p2 = r_X7_tell_0 pg p1 p2 ∧ ∃ (d1 : Nat) (pi1 : Nat → Nat), s_X6_tell_ac d 0 p1 p2 = kc (nI d1) ∧ (∀ aB, s_X6_tell_bo d pi aB 0 p1 p2 = kAO aB pi1) ∧ rR n9 d1 L z pi1 sg ik tk en mo (s_X6_tell_gN gN 0 p1 p2) gS0 gS1 (s_X6_tell_gB d pi gN gB 0 p1 p2) (s_X7_tell_0_Z Z d p1 p2) tx (s_X7_tell_0_pg pg p1 p2) (s_X7_tell_0_bk d pg bk p1 p2) kp jk sa se sm := by
  have hh := h
  obtain ⟨_, hd, _, _, ⟨_, f2, _⟩, hw, hB, _⟩ := h
  have hw9 := hw
  obtain ⟨hE0, hE1, hY2, hY3, hc, hb, hp, hl⟩ := hw9
  have ref : rR n9 d L z pi sg ik tk en mo gN gS0 gS1 gB (upd (upd Z 10 (nI d)) 0 0) tx pg bk kp jk sa se sm := rR_Z hh (kZ0 f2)
  have acc : ∀ (g1 : Nat → Nat → Int32) (w1 : Nat → Int32), rW g1 w1 → rR n9 (kNoteD d) L z (kPi d pi) sg ik tk en mo g1 gS0 gS1 (va_up gB (kPi d pi (kNoteD d - 1)) gN) (upd (upd Z 0 0) 10 (nI (kNoteD d))) tx w1 (kNoteB d bk pg) kp jk sa se sm := fun g1 w1 hw1 => rR_act hh (kNoteD_le hd) hw1 (rB_note hB hd hw) (kZn Z _).1 (kZn Z _).2
  unfold r_X6_tell r_X7_tell_0 s_X6_tell_ac s_X6_tell_bo s_X6_tell_gN s_X6_tell_gB s_X7_tell_0_Z s_X7_tell_0_pg s_X7_tell_0_bk
  simp only [if_neg kz0]
  by_cases c0 : p1 < 0
  · have q := (kin32 (x := p1) (a := 0) (b := 2) (A := 0) (B := 2) rfl rfl).mpr (Or.inl c0)
    simp only [if_pos c0, if_pos q]
    exact ⟨by first | trivial | rfl, d, pi, rfl, fun _ => rfl, ref⟩
  · by_cases c1 : 2 < p1
    · have q := (kin32 (x := p1) (a := 0) (b := 2) (A := 0) (B := 2) rfl rfl).mpr (Or.inr c1)
      simp only [if_neg c0, if_pos c1, if_pos q]
      exact ⟨by first | trivial | rfl, d, pi, rfl, fun _ => rfl, ref⟩
    · have q : ¬ r_X7_in p1.toInt64 0 2 = 0 := fun q => ((kin32 (a := 0) (b := 2) rfl rfl).mp q).elim c0 c1
      simp only [if_neg c0, if_neg c1, if_neg q]
      obtain ⟨v, hv, rfl⟩ := knum (N := 2) (by decide) c0 c1
      rw [nI_clamp (by omega)]
      unfold r_X0_numberOf
      have hv3 : v = 0 ∨ v = 1 ∨ v = 2 := by omega
      by_cases c2 : p2 < 1
      · have q5 := (kin32 (x := p2) (a := 1) (b := 5) (A := 1) (B := 5) rfl rfl).mpr (Or.inl c2)
        have q9 := (kin32 (x := p2) (a := 1) (b := 9) (A := 1) (B := 9) rfl rfl).mpr (Or.inl c2)
        simp only [if_pos c2, if_pos q5, if_pos q9, ite_self]
        exact ⟨by first | trivial | rfl, d, pi, rfl, fun _ => rfl, ref⟩
      · have hp2 : 0 ≤ p2 := Int32.le_trans (by decide) (Int32.not_lt.mp c2)
        simp only [if_neg c2]
        rcases hv3 with rfl | rfl | rfl
        · by_cases c3 : 9 < p2
          · have q9 := (kin32 (x := p2) (a := 1) (b := 9) (A := 1) (B := 9) rfl rfl).mpr (Or.inr c3)
            simp only [if_pos (show nI 0 = 0 by decide), if_neg (show ¬ nI 0 = 1 by decide), if_neg (show ¬ nI 0 = 2 by decide), if_neg (Int32.not_le.mpr c3), if_pos q9]
            exact ⟨by first | trivial | rfl, d, pi, rfl, fun _ => rfl, ref⟩
          · have q9 : ¬ r_X7_in p2.toInt64 1 9 = 0 := fun q => ((kin32 (a := 1) (b := 9) rfl rfl).mp q).elim c2 c3
            simp only [if_pos (show nI 0 = 0 by decide), if_neg (show ¬ nI 0 = 1 by decide), if_neg (show ¬ nI 0 = 2 by decide), if_pos (Int32.not_lt.mp c3), if_neg q9, if_pos (rfl : (0 : Int32) = 0)]
            exact ⟨hE0.1.symm, kNoteD d, kPi d pi, rfl, fun _ => rfl, acc _ _ (rW_end0 hw (rset_tx_0 hE0 p2) (fset_tx_0 _ _) (b_s_X0_takeSetting_X _ _ _ hb.1) (pE_set hp.1 hp2))⟩
        · by_cases c3 : 9 < p2
          · have q9 := (kin32 (x := p2) (a := 1) (b := 9) (A := 1) (B := 9) rfl rfl).mpr (Or.inr c3)
            simp only [if_neg (show ¬ nI 1 = 0 by decide), if_pos (show nI 1 = 1 by decide), if_neg (show ¬ nI 1 = 2 by decide), if_neg (Int32.not_le.mpr c3), if_pos q9]
            exact ⟨by first | trivial | rfl, d, pi, rfl, fun _ => rfl, ref⟩
          · have q9 : ¬ r_X7_in p2.toInt64 1 9 = 0 := fun q => ((kin32 (a := 1) (b := 9) rfl rfl).mp q).elim c2 c3
            simp only [if_neg (show ¬ nI 1 = 0 by decide), if_pos (show nI 1 = 1 by decide), if_neg (show ¬ nI 1 = 2 by decide), if_pos (Int32.not_lt.mp c3), if_neg q9, if_pos (rfl : (0 : Int32) = 0)]
            exact ⟨hE0.2.1.symm, kNoteD d, kPi d pi, rfl, fun _ => rfl, acc _ _ (rW_end0 hw (rset_rx_0 hE0 p2) (fset_rx_0 _ _) (b_s_X0_takeSetting_X _ _ _ hb.1) (pE_set hp.1 hp2))⟩
        · by_cases c3 : 5 < p2
          · have q9 := (kin32 (x := p2) (a := 1) (b := 5) (A := 1) (B := 5) rfl rfl).mpr (Or.inr c3)
            simp only [if_neg (show ¬ nI 2 = 0 by decide), if_neg (show ¬ nI 2 = 1 by decide), if_pos (show nI 2 = 2 by decide), if_neg (Int32.not_le.mpr c3), if_pos q9]
            exact ⟨by first | trivial | rfl, d, pi, rfl, fun _ => rfl, ref⟩
          · have q9 : ¬ r_X7_in p2.toInt64 1 5 = 0 := fun q => ((kin32 (a := 1) (b := 5) rfl rfl).mp q).elim c2 c3
            simp only [if_neg (show ¬ nI 2 = 0 by decide), if_neg (show ¬ nI 2 = 1 by decide), if_pos (show nI 2 = 2 by decide), if_pos (Int32.not_lt.mp c3), if_neg q9, if_pos (rfl : (0 : Int32) = 0)]
            exact ⟨hE0.2.2.1.symm, kNoteD d, kPi d pi, rfl, fun _ => rfl, acc _ _ (rW_end0 hw (rset_mu_0 hE0 p2) ((fun k hk => pk_un (by omega))) (b_s_X0_takeSetting_X _ _ _ hb.1) (pE_set hp.1 hp2))⟩
theorem st_demand_0 {n9 d L z : Nat} {pi : Nat → Nat} {sg ik tk en mo : Nat → Int32} {gN gS0 gS1 : Nat → Nat → Int32} {gB : Nat → Nat → Nat → Int32} {Z tx pg bk kp jk sa se sm : Nat → Int32} (h : rR n9 d L z pi sg ik tk en mo gN gS0 gS1 gB Z tx pg bk kp jk sa se sm) : r_X6_demand gN 0 = (pg 7 ^^^ 1) ∧ ∃ (d1 : Nat) (pi1 : Nat → Nat), s_X6_demand_ac d 0 = kc (nI d1) ∧ (∀ aB, s_X6_demand_bo d pi aB 0 = kAO aB pi1) ∧ rR n9 d1 L z pi1 sg ik tk en mo (s_X6_demand_gN gN 0) gS0 gS1 (s_X6_demand_gB d pi gN gB 0) (upd (upd Z 0 0) 10 (nI (kNoteD d))) tx (upd pg 7 (pg 7 ^^^ 1)) (kNoteB d bk pg) kp jk sa se sm := by
  have hh := h
  obtain ⟨_, hd, _, _, ⟨_, f2, _⟩, hw, hB, _⟩ := h
  have hb : bW gN := hw.2.2.2.2.2.1
  have hr := rW_dem0 hw
  unfold r_X6_demand s_X6_demand_ac s_X6_demand_bo s_X6_demand_gN s_X6_demand_gB
  simp only [if_neg kz0, if_pos (rfl : (0 : Int32) = 0)]
  refine ⟨(koneIf (b_s_X0_turnDemand_X _ hb.1).2.1).trans hr.1.2.2.2.2.2.2.2.1.symm, kNoteD d, kPi d pi, rfl, fun _ => rfl, rR_act hh (kNoteD_le hd) hr (rB_note hB hd hw) (kZn Z _).1 (kZn Z _).2⟩
theorem st_turn_0 {n9 d L z : Nat} {pi : Nat → Nat} {sg ik tk en mo : Nat → Int32} {gN gS0 gS1 : Nat → Nat → Int32} {gB : Nat → Nat → Nat → Int32} {Z tx pg bk kp jk sa se sm : Nat → Int32} (h : rR n9 d L z pi sg ik tk en mo gN gS0 gS1 gB Z tx pg bk kp jk sa se sm) : r_X6_turn gN 0 = (pg 32 ^^^ 1) ∧ ∃ (d1 : Nat) (pi1 : Nat → Nat), s_X6_turn_ac d 0 = kc (nI d1) ∧ (∀ aB, s_X6_turn_bo d pi aB 0 = kAO aB pi1) ∧ rR n9 d1 L z pi1 sg ik tk en mo (s_X6_turn_gN gN 0) gS0 gS1 (s_X6_turn_gB d pi gN gB 0) (upd (upd Z 0 0) 10 (nI (kNoteD d))) tx (upd pg 32 (pg 32 ^^^ 1)) (kNoteB d bk pg) kp jk sa se sm := by
  have hh := h
  obtain ⟨_, hd, _, _, ⟨_, f2, _⟩, hw, hB, _⟩ := h
  have hb : bW gN := hw.2.2.2.2.2.1
  have hr := rW_turn2 hw
  unfold r_X6_turn s_X6_turn_ac s_X6_turn_bo s_X6_turn_gN s_X6_turn_gB
  simp only [if_neg kz0, if_pos (rfl : (0 : Int32) = 0)]
  refine ⟨(koneIf (b_s_X4_turnOver_Y _ hb.2.2.1).2.2.2.2.2).trans hr.2.2.1.1.symm, kNoteD d, kPi d pi, rfl, fun _ => rfl, rR_act hh (kNoteD_le hd) hr (rB_note hB hd hw) (kZn Z _).1 (kZn Z _).2⟩
theorem st_poll_0 {n9 d L z : Nat} {pi : Nat → Nat} {sg ik tk en mo : Nat → Int32} {gN gS0 gS1 : Nat → Nat → Int32} {gB : Nat → Nat → Nat → Int32} {Z tx pg bk kp jk sa se sm : Nat → Int32} (h : rR n9 d L z pi sg ik tk en mo gN gS0 gS1 gB Z tx pg bk kp jk sa se sm) : r_X6_poll gN 0 = r_X7_poll_0 pg ∧ ∃ (d1 : Nat) (pi1 : Nat → Nat), s_X6_poll_ac d gN 0 = kc (nI d1) ∧ (∀ aB, s_X6_poll_bo d pi aB gN 0 = kAO aB pi1) ∧ rR n9 d1 L z pi1 sg ik tk en mo (s_X6_poll_gN gN 0) gS0 gS1 (s_X6_poll_gB d pi gN gB 0) (s_X7_poll_0_Z Z d pg) tx (s_X7_poll_0_pg pg) (s_X7_poll_0_bk d pg bk) kp jk sa se sm := by
  have hh := h
  obtain ⟨_, hd, _, _, ⟨_, f2, _⟩, hw, hB, _⟩ := h
  have hr := rW_poll0 hw
  have hm := rmay_0 hw.1
  have hl := rlimit_0 hr.1 hr.2.2.2.2.2.2.1.1.2
  unfold r_X6_poll r_X7_poll_0 s_X6_poll_ac s_X6_poll_bo s_X6_poll_gN s_X6_poll_gB s_X7_poll_0_Z s_X7_poll_0_pg s_X7_poll_0_bk
  rw [hm]
  simp only [if_neg kz0, if_pos (rfl : (0 : Int32) = 0)]
  by_cases c : r_X0_canBePolled (gN 0) = 0
  · simp only [if_pos c]
    exact ⟨by first | trivial | rfl, d, pi, rfl, fun _ => rfl, rR_Z hh (kZ0 f2)⟩
  · simp only [if_neg c]
    exact ⟨hl.symm, kNoteD d, kPi d pi, rfl, fun _ => rfl, rR_act hh (kNoteD_le hd) hr (rB_note hB hd hw) (kZn Z _).1 (kZn Z _).2⟩
theorem st_tell_1 {n9 d L z : Nat} {pi : Nat → Nat} {sg ik tk en mo : Nat → Int32} {gN gS0 gS1 : Nat → Nat → Int32} {gB : Nat → Nat → Nat → Int32} {Z tx pg bk kp jk sa se sm : Nat → Int32} (h : rR n9 d L z pi sg ik tk en mo gN gS0 gS1 gB Z tx pg bk kp jk sa se sm) (p1 p2 : Int32) : r_X6_tell gN 1 p1 p2 = r_X7_tell_1 pg p1 p2 ∧ ∃ (d1 : Nat) (pi1 : Nat → Nat), s_X6_tell_ac d 1 p1 p2 = kc (nI d1) ∧ (∀ aB, s_X6_tell_bo d pi aB 1 p1 p2 = kAO aB pi1) ∧ rR n9 d1 L z pi1 sg ik tk en mo (s_X6_tell_gN gN 1 p1 p2) gS0 gS1 (s_X6_tell_gB d pi gN gB 1 p1 p2) (s_X7_tell_1_Z Z d p1 p2) tx (s_X7_tell_1_pg pg p1 p2) (s_X7_tell_1_bk d pg bk p1 p2) kp jk sa se sm := by
  have hh := h
  obtain ⟨_, hd, _, _, ⟨_, f2, _⟩, hw, hB, _⟩ := h
  have hw9 := hw
  obtain ⟨hE0, hE1, hY2, hY3, hc, hb, hp, hl⟩ := hw9
  have ref : rR n9 d L z pi sg ik tk en mo gN gS0 gS1 gB (upd (upd Z 10 (nI d)) 0 0) tx pg bk kp jk sa se sm := rR_Z hh (kZ0 f2)
  have acc : ∀ (g1 : Nat → Nat → Int32) (w1 : Nat → Int32), rW g1 w1 → rR n9 (kNoteD d) L z (kPi d pi) sg ik tk en mo g1 gS0 gS1 (va_up gB (kPi d pi (kNoteD d - 1)) gN) (upd (upd Z 0 0) 10 (nI (kNoteD d))) tx w1 (kNoteB d bk pg) kp jk sa se sm := fun g1 w1 hw1 => rR_act hh (kNoteD_le hd) hw1 (rB_note hB hd hw) (kZn Z _).1 (kZn Z _).2
  unfold r_X6_tell r_X7_tell_1 s_X6_tell_ac s_X6_tell_bo s_X6_tell_gN s_X6_tell_gB s_X7_tell_1_Z s_X7_tell_1_pg s_X7_tell_1_bk
  simp only [if_neg kz1]
  by_cases c0 : p1 < 0
  · have q := (kin32 (x := p1) (a := 0) (b := 2) (A := 0) (B := 2) rfl rfl).mpr (Or.inl c0)
    simp only [if_pos c0, if_pos q]
    exact ⟨by first | trivial | rfl, d, pi, rfl, fun _ => rfl, ref⟩
  · by_cases c1 : 2 < p1
    · have q := (kin32 (x := p1) (a := 0) (b := 2) (A := 0) (B := 2) rfl rfl).mpr (Or.inr c1)
      simp only [if_neg c0, if_pos c1, if_pos q]
      exact ⟨by first | trivial | rfl, d, pi, rfl, fun _ => rfl, ref⟩
    · have q : ¬ r_X7_in p1.toInt64 0 2 = 0 := fun q => ((kin32 (a := 0) (b := 2) rfl rfl).mp q).elim c0 c1
      simp only [if_neg c0, if_neg c1, if_neg q]
      obtain ⟨v, hv, rfl⟩ := knum (N := 2) (by decide) c0 c1
      rw [nI_clamp (by omega)]
      unfold r_X0_numberOf
      have hv3 : v = 0 ∨ v = 1 ∨ v = 2 := by omega
      by_cases c2 : p2 < 1
      · have q5 := (kin32 (x := p2) (a := 1) (b := 5) (A := 1) (B := 5) rfl rfl).mpr (Or.inl c2)
        have q9 := (kin32 (x := p2) (a := 1) (b := 9) (A := 1) (B := 9) rfl rfl).mpr (Or.inl c2)
        simp only [if_pos c2, if_pos q5, if_pos q9, ite_self]
        exact ⟨by first | trivial | rfl, d, pi, rfl, fun _ => rfl, ref⟩
      · have hp2 : 0 ≤ p2 := Int32.le_trans (by decide) (Int32.not_lt.mp c2)
        simp only [if_neg c2]
        rcases hv3 with rfl | rfl | rfl
        · by_cases c3 : 9 < p2
          · have q9 := (kin32 (x := p2) (a := 1) (b := 9) (A := 1) (B := 9) rfl rfl).mpr (Or.inr c3)
            simp only [if_pos (show nI 0 = 0 by decide), if_neg (show ¬ nI 0 = 1 by decide), if_neg (show ¬ nI 0 = 2 by decide), if_neg (Int32.not_le.mpr c3), if_pos q9]
            exact ⟨by first | trivial | rfl, d, pi, rfl, fun _ => rfl, ref⟩
          · have q9 : ¬ r_X7_in p2.toInt64 1 9 = 0 := fun q => ((kin32 (a := 1) (b := 9) rfl rfl).mp q).elim c2 c3
            simp only [if_pos (show nI 0 = 0 by decide), if_neg (show ¬ nI 0 = 1 by decide), if_neg (show ¬ nI 0 = 2 by decide), if_pos (Int32.not_lt.mp c3), if_neg q9, if_neg (show ¬ (1 : Int32) = 0 by decide)]
            exact ⟨hE1.1.symm, kNoteD d, kPi d pi, rfl, fun _ => rfl, acc _ _ (rW_end1 hw (rset_tx_16 hE1 p2) (fset_tx_16 _ _) (b_s_X0_takeSetting_X _ _ _ hb.2.1) (pE_set hp.2 hp2))⟩
        · by_cases c3 : 9 < p2
          · have q9 := (kin32 (x := p2) (a := 1) (b := 9) (A := 1) (B := 9) rfl rfl).mpr (Or.inr c3)
            simp only [if_neg (show ¬ nI 1 = 0 by decide), if_pos (show nI 1 = 1 by decide), if_neg (show ¬ nI 1 = 2 by decide), if_neg (Int32.not_le.mpr c3), if_pos q9]
            exact ⟨by first | trivial | rfl, d, pi, rfl, fun _ => rfl, ref⟩
          · have q9 : ¬ r_X7_in p2.toInt64 1 9 = 0 := fun q => ((kin32 (a := 1) (b := 9) rfl rfl).mp q).elim c2 c3
            simp only [if_neg (show ¬ nI 1 = 0 by decide), if_pos (show nI 1 = 1 by decide), if_neg (show ¬ nI 1 = 2 by decide), if_pos (Int32.not_lt.mp c3), if_neg q9, if_neg (show ¬ (1 : Int32) = 0 by decide)]
            exact ⟨hE1.2.1.symm, kNoteD d, kPi d pi, rfl, fun _ => rfl, acc _ _ (rW_end1 hw (rset_rx_16 hE1 p2) (fset_rx_16 _ _) (b_s_X0_takeSetting_X _ _ _ hb.2.1) (pE_set hp.2 hp2))⟩
        · by_cases c3 : 5 < p2
          · have q9 := (kin32 (x := p2) (a := 1) (b := 5) (A := 1) (B := 5) rfl rfl).mpr (Or.inr c3)
            simp only [if_neg (show ¬ nI 2 = 0 by decide), if_neg (show ¬ nI 2 = 1 by decide), if_pos (show nI 2 = 2 by decide), if_neg (Int32.not_le.mpr c3), if_pos q9]
            exact ⟨by first | trivial | rfl, d, pi, rfl, fun _ => rfl, ref⟩
          · have q9 : ¬ r_X7_in p2.toInt64 1 5 = 0 := fun q => ((kin32 (a := 1) (b := 5) rfl rfl).mp q).elim c2 c3
            simp only [if_neg (show ¬ nI 2 = 0 by decide), if_neg (show ¬ nI 2 = 1 by decide), if_pos (show nI 2 = 2 by decide), if_pos (Int32.not_lt.mp c3), if_neg q9, if_neg (show ¬ (1 : Int32) = 0 by decide)]
            exact ⟨hE1.2.2.1.symm, kNoteD d, kPi d pi, rfl, fun _ => rfl, acc _ _ (rW_end1 hw (rset_mu_16 hE1 p2) ((fun k hk => pk_un (by omega))) (b_s_X0_takeSetting_X _ _ _ hb.2.1) (pE_set hp.2 hp2))⟩
theorem st_demand_1 {n9 d L z : Nat} {pi : Nat → Nat} {sg ik tk en mo : Nat → Int32} {gN gS0 gS1 : Nat → Nat → Int32} {gB : Nat → Nat → Nat → Int32} {Z tx pg bk kp jk sa se sm : Nat → Int32} (h : rR n9 d L z pi sg ik tk en mo gN gS0 gS1 gB Z tx pg bk kp jk sa se sm) : r_X6_demand gN 1 = (pg 23 ^^^ 1) ∧ ∃ (d1 : Nat) (pi1 : Nat → Nat), s_X6_demand_ac d 1 = kc (nI d1) ∧ (∀ aB, s_X6_demand_bo d pi aB 1 = kAO aB pi1) ∧ rR n9 d1 L z pi1 sg ik tk en mo (s_X6_demand_gN gN 1) gS0 gS1 (s_X6_demand_gB d pi gN gB 1) (upd (upd Z 0 0) 10 (nI (kNoteD d))) tx (upd pg 23 (pg 23 ^^^ 1)) (kNoteB d bk pg) kp jk sa se sm := by
  have hh := h
  obtain ⟨_, hd, _, _, ⟨_, f2, _⟩, hw, hB, _⟩ := h
  have hb : bW gN := hw.2.2.2.2.2.1
  have hr := rW_dem1 hw
  unfold r_X6_demand s_X6_demand_ac s_X6_demand_bo s_X6_demand_gN s_X6_demand_gB
  simp only [if_neg kz1, if_neg (show ¬ (1 : Int32) = 0 by decide)]
  refine ⟨(koneIf (b_s_X0_turnDemand_X _ hb.2.1).2.1).trans hr.2.1.2.2.2.2.2.2.2.1.symm, kNoteD d, kPi d pi, rfl, fun _ => rfl, rR_act hh (kNoteD_le hd) hr (rB_note hB hd hw) (kZn Z _).1 (kZn Z _).2⟩
theorem st_turn_1 {n9 d L z : Nat} {pi : Nat → Nat} {sg ik tk en mo : Nat → Int32} {gN gS0 gS1 : Nat → Nat → Int32} {gB : Nat → Nat → Nat → Int32} {Z tx pg bk kp jk sa se sm : Nat → Int32} (h : rR n9 d L z pi sg ik tk en mo gN gS0 gS1 gB Z tx pg bk kp jk sa se sm) : r_X6_turn gN 1 = (pg 33 ^^^ 1) ∧ ∃ (d1 : Nat) (pi1 : Nat → Nat), s_X6_turn_ac d 1 = kc (nI d1) ∧ (∀ aB, s_X6_turn_bo d pi aB 1 = kAO aB pi1) ∧ rR n9 d1 L z pi1 sg ik tk en mo (s_X6_turn_gN gN 1) gS0 gS1 (s_X6_turn_gB d pi gN gB 1) (upd (upd Z 0 0) 10 (nI (kNoteD d))) tx (upd pg 33 (pg 33 ^^^ 1)) (kNoteB d bk pg) kp jk sa se sm := by
  have hh := h
  obtain ⟨_, hd, _, _, ⟨_, f2, _⟩, hw, hB, _⟩ := h
  have hb : bW gN := hw.2.2.2.2.2.1
  have hr := rW_turn3 hw
  unfold r_X6_turn s_X6_turn_ac s_X6_turn_bo s_X6_turn_gN s_X6_turn_gB
  simp only [if_neg kz1, if_neg (show ¬ (1 : Int32) = 0 by decide)]
  refine ⟨(koneIf (b_s_X4_turnOver_Y _ hb.2.2.2).2.2.2.2.2).trans hr.2.2.2.1.1.symm, kNoteD d, kPi d pi, rfl, fun _ => rfl, rR_act hh (kNoteD_le hd) hr (rB_note hB hd hw) (kZn Z _).1 (kZn Z _).2⟩
theorem st_poll_1 {n9 d L z : Nat} {pi : Nat → Nat} {sg ik tk en mo : Nat → Int32} {gN gS0 gS1 : Nat → Nat → Int32} {gB : Nat → Nat → Nat → Int32} {Z tx pg bk kp jk sa se sm : Nat → Int32} (h : rR n9 d L z pi sg ik tk en mo gN gS0 gS1 gB Z tx pg bk kp jk sa se sm) : r_X6_poll gN 1 = r_X7_poll_1 pg ∧ ∃ (d1 : Nat) (pi1 : Nat → Nat), s_X6_poll_ac d gN 1 = kc (nI d1) ∧ (∀ aB, s_X6_poll_bo d pi aB gN 1 = kAO aB pi1) ∧ rR n9 d1 L z pi1 sg ik tk en mo (s_X6_poll_gN gN 1) gS0 gS1 (s_X6_poll_gB d pi gN gB 1) (s_X7_poll_1_Z Z d pg) tx (s_X7_poll_1_pg pg) (s_X7_poll_1_bk d pg bk) kp jk sa se sm := by
  have hh := h
  obtain ⟨_, hd, _, _, ⟨_, f2, _⟩, hw, hB, _⟩ := h
  have hr := rW_poll1 hw
  have hm := rmay_16 hw.2.1
  have hl := rlimit_16 hr.2.1 hr.2.2.2.2.2.2.1.2.2
  unfold r_X6_poll r_X7_poll_1 s_X6_poll_ac s_X6_poll_bo s_X6_poll_gN s_X6_poll_gB s_X7_poll_1_Z s_X7_poll_1_pg s_X7_poll_1_bk
  rw [hm]
  simp only [if_neg kz1, if_neg (show ¬ (1 : Int32) = 0 by decide)]
  by_cases c : r_X0_canBePolled (gN 1) = 0
  · simp only [if_pos c]
    exact ⟨by first | trivial | rfl, d, pi, rfl, fun _ => rfl, rR_Z hh (kZ0 f2)⟩
  · simp only [if_neg c]
    exact ⟨hl.symm, kNoteD d, kPi d pi, rfl, fun _ => rfl, rR_act hh (kNoteD_le hd) hr (rB_note hB hd hw) (kZn Z _).1 (kZn Z _).2⟩
