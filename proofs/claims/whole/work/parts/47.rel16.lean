/-! what the asking calls leave -/
theorem kite {c : Prop} [Decidable c] {a b : Nat → Int32} {k : Nat} {x : Int32} (ha : a k = x) (hb : b k = x) : (if c then a else b) k = x := by
  by_cases h : c
  · rw [if_pos h]; exact ha
  · rw [if_neg h]; exact hb
def k3 (k : Nat) : Prop := k = 2 ∨ k = 10 ∨ k = 13
theorem k3_n {k : Nat} (h : k3 k) : k ≠ 0 ∧ k ≠ 18 ∧ k ≠ 19 ∧ k ≠ 20 ∧ k ≠ 21 ∧ k < 18 := by unfold k3 at h; omega
theorem z_3 {Z : Nat → Int32} {k : Nat} (h : k3 k) (a b c : Int32) : (upd (upd (upd Z 18 a) 20 b) 21 c) k = Z k := by
  obtain ⟨_, h18, _, h20, h21, _⟩ := k3_n h
  rw [pk_un h21, pk_un h20, pk_un h18]
theorem z_0 {Z : Nat → Int32} {k : Nat} (h : k3 k) (a : Int32) : (upd Z 0 a) k = Z k := pk_un (k3_n h).1
theorem z_go {Z f : Nat → Int32} {k : Nat} (h : k3 k) (p0 : Int32) : s_X7_goFor_Z Z f p0 k = Z k := zgoFor _ _ _ k (k3_n h).2.2.1 (k3_n h).2.2.2.2.1
theorem z_tick {Z f : Nat → Int32} {k : Nat} (h : k3 k) : s_X7_tick_Z Z f k = Z k := ztick _ _ k (k3_n h).2.2.1 (k3_n h).2.2.2.2.1
theorem zl_not_0 {k : Nat} (h : k3 k) : ∀ (n j : Nat) (Z f : Nat → Int32), l_X7_noticed_0_1_Z n j Z f k = Z k
  | 0, j, Z, f => by rw [l_X7_noticed_0_1_Z]
  | n + 1, j, Z, f => by
    rw [l_X7_noticed_0_1_Z]
    exact kite rfl ((zl_not_0 h n _ _ _).trans (z_tick h))
theorem z_not_0 {Z pg tr : Nat → Int32} {k : Nat} (h : k3 k) : s_X7_noticed_0_Z Z pg tr k = Z k := by
  unfold s_X7_noticed_0_Z
  rw [zl_not_0 h, z_3 h]
theorem zl_endu_0 {k : Nat} (h : k3 k) : ∀ (n j : Nat) (st : Int32) (Z f : Nat → Int32), l_X7_endures_0_1_Z n j st Z f k = Z k
  | 0, j, st, Z, f => by rw [l_X7_endures_0_1_Z, pk_un (k3_n h).2.1]
  | n + 1, j, st, Z, f => by
    rw [l_X7_endures_0_1_Z]
    exact kite (pk_un (k3_n h).2.1) (kite ((zl_endu_0 h n _ _ _ _).trans (z_tick h)) ((zl_endu_0 h n _ _ _ _).trans (z_tick h)))
theorem z_endu_0 {Z pg tr : Nat → Int32} {p1 : Int32} {k : Nat} (h : k3 k) : s_X7_endures_0_Z Z pg tr p1 k = Z k := by
  unfold s_X7_endures_0_Z
  rw [zl_endu_0 h, pk_un (k3_n h).2.2.1, pk_un (k3_n h).2.1, z_3 h]
theorem zl_endd_0 {k : Nat} (h : k3 k) (pg : Nat → Int32) : ∀ (n j : Nat) (st : Int32) (Z f : Nat → Int32), l_X7_endured_0_1_Z pg n j st Z f k = Z k
  | 0, j, st, Z, f => by rw [l_X7_endured_0_1_Z]
  | n + 1, j, st, Z, f => by
    rw [l_X7_endured_0_1_Z]
    exact kite ((zl_endd_0 h pg n _ _ _ _).trans (z_endu_0 h)) ((zl_endd_0 h pg n _ _ _ _).trans (z_endu_0 h))
theorem z_endd_0 {Z pg tr : Nat → Int32} {k : Nat} (h : k3 k) : s_X7_endured_0_Z Z pg tr k = Z k := by
  unfold s_X7_endured_0_Z
  exact kite rfl (kite (z_endu_0 h) ((zl_endd_0 h pg _ _ _ _ _).trans (z_endu_0 h)))
theorem z_end_0 {Z pg tr : Nat → Int32} {p1 : Int32} {k : Nat} (h : k3 k) : s_X7_end_0_Z Z pg tr p1 k = Z k := by
  unfold s_X7_end_0_Z
  exact kite (kite (z_0 h _) (kite (z_0 h _) (kite ((z_not_0 h).trans (z_0 h _)) (kite ((z_endd_0 h).trans (z_0 h _)) (z_0 h _))))) (z_0 h _)
theorem z_known_0 {Z : Nat → Int32} {p1 : Int32} {k : Nat} (h : k3 k) : s_X7_known_0_Z Z p1 k = Z k := by
  unfold s_X7_known_0_Z
  exact kite (z_0 h _) (z_0 h _)
theorem z_way_0 {Z : Nat → Int32} {p1 : Int32} {k : Nat} (h : k3 k) : s_X7_way_0_Z Z p1 k = Z k := by
  unfold s_X7_way_0_Z
  exact kite (z_0 h _) (kite (z_0 h _) (z_0 h _))
theorem zl_not_1 {k : Nat} (h : k3 k) : ∀ (n j : Nat) (Z f : Nat → Int32), l_X7_noticed_1_1_Z n j Z f k = Z k
  | 0, j, Z, f => by rw [l_X7_noticed_1_1_Z]
  | n + 1, j, Z, f => by
    rw [l_X7_noticed_1_1_Z]
    exact kite rfl ((zl_not_1 h n _ _ _).trans (z_tick h))
theorem z_not_1 {Z pg tr : Nat → Int32} {k : Nat} (h : k3 k) : s_X7_noticed_1_Z Z pg tr k = Z k := by
  unfold s_X7_noticed_1_Z
  rw [zl_not_1 h, z_3 h]
theorem zl_endu_1 {k : Nat} (h : k3 k) : ∀ (n j : Nat) (st : Int32) (Z f : Nat → Int32), l_X7_endures_1_1_Z n j st Z f k = Z k
  | 0, j, st, Z, f => by rw [l_X7_endures_1_1_Z, pk_un (k3_n h).2.1]
  | n + 1, j, st, Z, f => by
    rw [l_X7_endures_1_1_Z]
    exact kite (pk_un (k3_n h).2.1) (kite ((zl_endu_1 h n _ _ _ _).trans (z_tick h)) ((zl_endu_1 h n _ _ _ _).trans (z_tick h)))
theorem z_endu_1 {Z pg tr : Nat → Int32} {p1 : Int32} {k : Nat} (h : k3 k) : s_X7_endures_1_Z Z pg tr p1 k = Z k := by
  unfold s_X7_endures_1_Z
  rw [zl_endu_1 h, pk_un (k3_n h).2.2.1, pk_un (k3_n h).2.1, z_3 h]
theorem zl_endd_1 {k : Nat} (h : k3 k) (pg : Nat → Int32) : ∀ (n j : Nat) (st : Int32) (Z f : Nat → Int32), l_X7_endured_1_1_Z pg n j st Z f k = Z k
  | 0, j, st, Z, f => by rw [l_X7_endured_1_1_Z]
  | n + 1, j, st, Z, f => by
    rw [l_X7_endured_1_1_Z]
    exact kite ((zl_endd_1 h pg n _ _ _ _).trans (z_endu_1 h)) ((zl_endd_1 h pg n _ _ _ _).trans (z_endu_1 h))
theorem z_endd_1 {Z pg tr : Nat → Int32} {k : Nat} (h : k3 k) : s_X7_endured_1_Z Z pg tr k = Z k := by
  unfold s_X7_endured_1_Z
  exact kite rfl (kite (z_endu_1 h) ((zl_endd_1 h pg _ _ _ _ _).trans (z_endu_1 h)))
theorem z_end_1 {Z pg tr : Nat → Int32} {p1 : Int32} {k : Nat} (h : k3 k) : s_X7_end_1_Z Z pg tr p1 k = Z k := by
  unfold s_X7_end_1_Z
  exact kite (kite (z_0 h _) (kite (z_0 h _) (kite ((z_not_1 h).trans (z_0 h _)) (kite ((z_endd_1 h).trans (z_0 h _)) (z_0 h _))))) (z_0 h _)
theorem z_known_1 {Z : Nat → Int32} {p1 : Int32} {k : Nat} (h : k3 k) : s_X7_known_1_Z Z p1 k = Z k := by
  unfold s_X7_known_1_Z
  exact kite (z_0 h _) (z_0 h _)
theorem z_way_1 {Z : Nat → Int32} {p1 : Int32} {k : Nat} (h : k3 k) : s_X7_way_1_Z Z p1 k = Z k := by
  unfold s_X7_way_1_Z
  exact kite (z_0 h _) (kite (z_0 h _) (z_0 h _))
theorem z_ahead {Z pg tr : Nat → Int32} {p0 p1 : Int32} {k : Nat} (h : k3 k) : s_X7_ahead_Z Z pg tr p0 p1 k = Z k := by
  unfold s_X7_ahead_Z
  have e := ((z_go (Z := upd (upd (upd (upd Z 0 0) 18 (-9)) 20 0) 21 6) (f := s_X7_lay_t pg tr) h p0).trans (z_3 h _ _ _)).trans (z_0 h _)
  exact kite (z_0 h _) (kite (z_0 h _) (kite (kite e e) e))
theorem z_letters {Z pg tr : Nat → Int32} {p0 : Int32} {k : Nat} (h : k3 k) : s_X7_letters_Z Z pg tr p0 k = Z k := by
  unfold s_X7_letters_Z
  have e := ((z_go (Z := upd (upd (upd (upd Z 0 0) 18 (-9)) 20 0) 21 6) (f := s_X7_lay_t pg tr) h p0).trans (z_3 h _ _ _)).trans (z_0 h _)
  exact kite (z_0 h _) e
theorem z_does {Z tr : Nat → Int32} {p0 p1 p2 : Int32} {k : Nat} (h : k3 k) : s_X7_does_Z Z tr p0 p1 p2 k = Z k := by
  unfold s_X7_does_Z
  repeat' first | with_reducible rfl | with_reducible exact z_go h _ | with_reducible refine kite ?_ ?_
theorem zl_dr {k : Nat} (h : k3 k) : ∀ (n j : Nat) (Z f : Nat → Int32) (sd : Int64), l_X7_drawn_1_Z n j Z f sd k = Z k
  | 0, j, Z, f, sd => by rw [l_X7_drawn_1_Z]
  | n + 1, j, Z, f, sd => by
    rw [l_X7_drawn_1_Z]
    repeat' first | with_reducible exact (zl_dr h n _ _ _ _).trans (z_tick h) | with_reducible refine kite ?_ ?_
theorem z_drawn {Z pg tr : Nat → Int32} {sd : Int64} {p0 : Int32} {k : Nat} (h : k3 k) : s_X7_drawn_Z Z sd pg tr p0 k = Z k := by
  unfold s_X7_drawn_Z
  exact kite (z_0 h _) (((zl_dr h _ _ _ _ _).trans (z_3 h _ _ _)).trans (z_0 h _))
theorem zt_wh {k : Nat} (h : k3 k) (pg sa se sm : Nat → Int32) (r : Nat) : ∀ (n j : Nat) (may : Int32) (Z f : Nat → Int32), t_X7_which_2_Z pg sa se sm r n j may Z f k = Z k
  | 0, j, may, Z, f => by rw [t_X7_which_2_Z]
  | n + 1, j, may, Z, f => by
    rw [t_X7_which_2_Z]
    exact kite rfl ((zt_wh h pg sa se sm r n _ _ _ _).trans (zseen _ _ _ _ _ _ _ _ k (k3_n h).2.2.2.2.2))
theorem zl_wh {k : Nat} (h : k3 k) (z : Nat) (pg sa se sm : Nat → Int32) : ∀ (n j : Nat) (st : Int32) (Z f : Nat → Int32), l_X7_which_1_Z z pg sa se sm n j st Z f k = Z k
  | 0, j, st, Z, f => by rw [l_X7_which_1_Z]
  | n + 1, j, st, Z, f => by
    rw [l_X7_which_1_Z]
    exact kite ((zl_wh h z pg sa se sm n _ _ _ _).trans (zt_wh h _ _ _ _ _ _ _ _ _ _)) ((zl_wh h z pg sa se sm n _ _ _ _).trans (zt_wh h _ _ _ _ _ _ _ _ _ _))
theorem z_which {Z pg tr sa se sm : Nat → Int32} {z : Nat} {k : Nat} (h : k3 k) : s_X7_which_Z Z z pg tr sa se sm k = (upd Z 13 (nI z)) k := by
  unfold s_X7_which_Z
  rw [zl_wh h, z_0 h]
theorem z_sentBy {Z pg tr : Nat → Int32} {p0 : Int32} {k : Nat} (h : k3 k) : s_X7_sentBy_Z Z pg tr p0 k = Z k := by
  unfold s_X7_sentBy_Z
  repeat' first | with_reducible exact (z_go h _).trans (z_3 h _ _ _) | with_reducible refine kite ?_ ?_
theorem zl_sh {k : Nat} (h : k3 k) (pg : Nat → Int32) (p0 : Int32) : ∀ (n j : Nat) (up : Int32) (Z f : Nat → Int32), l_X7_share_1_Z pg p0 n j up Z f k = Z k
  | 0, j, up, Z, f => by rw [l_X7_share_1_Z]
  | n + 1, j, up, Z, f => by
    rw [l_X7_share_1_Z]
    exact kite (((zl_sh h pg p0 n _ _ _ _).trans (z_sentBy h)).trans (z_sentBy h)) (zl_sh h pg p0 n _ _ _ _)
theorem z_share {Z pg tr : Nat → Int32} {p0 : Int32} {k : Nat} (h : k3 k) : s_X7_share_Z Z pg tr p0 k = Z k := by
  unfold s_X7_share_Z
  exact kite (z_0 h _) ((zl_sh h _ _ _ _ _ _ _).trans (z_0 h _))
theorem zl_lu {k : Nat} (h : k3 k) (pg : Nat → Int32) (rn xn : Nat) (k40 : Int32) : ∀ (n j : Nat) (up : Int32) (Z f : Nat → Int32), l_X7_luck_ok_1_Z pg rn xn k40 n j up Z f k = Z k
  | 0, j, up, Z, f => by rw [l_X7_luck_ok_1_Z]
  | n + 1, j, up, Z, f => by
    rw [l_X7_luck_ok_1_Z]
    have e : ∀ (f1 : Nat → Int32) (j : Int32), s_X7_goFor_Z (upd (upd (upd (upd (upd Z 18 (-9)) 20 0) 21 6) 20 j) 21 0) f1 k40 k = Z k := fun f1 j => by
      rw [z_go h, pk_un (k3_n h).2.2.2.2.1, pk_un (k3_n h).2.2.2.1, z_3 h]
    repeat' first | with_reducible exact (zl_lu h pg rn xn k40 n _ _ _ _).trans (e _ _) | with_reducible refine kite ?_ ?_
theorem z_luck {Z pg tr : Nat → Int32} {rn xn : Nat} {k40 : Int32} {k : Nat} (h : k3 k) : s_X7_luck_ok_Z Z pg tr rn xn k40 k = Z k := by
  unfold s_X7_luck_ok_Z
  rw [zl_lu h, z_0 h]
theorem z_luckx {Z : Nat → Int32} {p0 : Int32} {k : Nat} (h : k3 k) : s_X7_luck_x_Z Z p0 k = Z k := by
  unfold s_X7_luck_x_Z
  exact kite (z_0 h _) (z_0 h _)
theorem z_judge_1 {Z pg tr : Nat → Int32} {p1 : Int64} {k : Nat} (h : k3 k) : s_X7_judge_1_Z Z pg tr p1 k = Z k := by
  unfold s_X7_judge_1_Z
  repeat' first | with_reducible exact z_0 h _ | with_reducible refine kite ?_ ?_ | with_reducible exact (z_3 h _ _ _).trans (z_0 h _) | with_reducible refine (z_does h).trans ?_
theorem z_judge_2 {Z pg tr : Nat → Int32} {p1 : Int64} {k : Nat} (h : k3 k) : s_X7_judge_2_Z Z pg tr p1 k = Z k := by
  unfold s_X7_judge_2_Z
  repeat' first | with_reducible exact z_0 h _ | with_reducible refine kite ?_ ?_ | with_reducible exact (z_3 h _ _ _).trans (z_0 h _) | with_reducible refine (z_does h).trans ?_
theorem z_judge_3 {Z pg tr : Nat → Int32} {p1 : Int64} {k : Nat} (h : k3 k) : s_X7_judge_3_Z Z pg tr p1 k = Z k := by
  unfold s_X7_judge_3_Z
  repeat' first | with_reducible exact z_0 h _ | with_reducible refine kite ?_ ?_ | with_reducible exact (z_3 h _ _ _).trans (z_0 h _) | with_reducible refine (z_does h).trans ?_
theorem z_judge_4 {Z pg tr : Nat → Int32} {p1 : Int64} {k : Nat} (h : k3 k) : s_X7_judge_4_Z Z pg tr p1 k = Z k := by
  unfold s_X7_judge_4_Z
  repeat' first | with_reducible exact z_0 h _ | with_reducible refine kite ?_ ?_ | with_reducible exact (z_3 h _ _ _).trans (z_0 h _) | with_reducible refine (z_does h).trans ?_
theorem st_known_0 {n9 d L z : Nat} {pi : Nat → Nat} {sg ik tk en mo : Nat → Int32} {gN gS0 gS1 : Nat → Nat → Int32} {gB : Nat → Nat → Nat → Int32} {Z tx pg bk kp jk sa se sm : Nat → Int32} (h : rR n9 d L z pi sg ik tk en mo gN gS0 gS1 gB Z tx pg bk kp jk sa se sm) (p1 : Int32) : r_X6_known gN 0 p1 = r_X7_known_0 pg p1 ∧ rR n9 d L z pi sg ik tk en mo gN gS0 gS1 gB (s_X7_known_0_Z Z p1) tx pg bk kp jk sa se sm := by
  have hh := h
  obtain ⟨a, b, c, e, ⟨f1, f2, f3⟩, hw, hB, ht, hk, hv⟩ := h
  exact ⟨q_known_0 hw p1, rR_Z hh (fun k hk => z_known_0 hk)⟩
theorem st_way_0 {n9 d L z : Nat} {pi : Nat → Nat} {sg ik tk en mo : Nat → Int32} {gN gS0 gS1 : Nat → Nat → Int32} {gB : Nat → Nat → Nat → Int32} {Z tx pg bk kp jk sa se sm : Nat → Int32} (h : rR n9 d L z pi sg ik tk en mo gN gS0 gS1 gB Z tx pg bk kp jk sa se sm) (p1 : Int32) : r_X6_way gN 0 p1 = r_X7_way_0 pg p1 ∧ rR n9 d L z pi sg ik tk en mo gN gS0 gS1 gB (s_X7_way_0_Z Z p1) tx pg bk kp jk sa se sm := by
  have hh := h
  obtain ⟨a, b, c, e, ⟨f1, f2, f3⟩, hw, hB, ht, hk, hv⟩ := h
  exact ⟨q_way_0 hw p1, rR_Z hh (fun k hk => z_way_0 hk)⟩
theorem st_end_0 {n9 d L z : Nat} {pi : Nat → Nat} {sg ik tk en mo : Nat → Int32} {gN gS0 gS1 : Nat → Nat → Int32} {gB : Nat → Nat → Nat → Int32} {Z tx pg bk kp jk sa se sm : Nat → Int32} (h : rR n9 d L z pi sg ik tk en mo gN gS0 gS1 gB Z tx pg bk kp jk sa se sm) (tr : Nat → Int32) (p1 : Int32) : r_X6_end gN 0 p1 = r_X7_end_0 Z pg tr p1 ∧ rR n9 d L z pi sg ik tk en mo gN gS0 gS1 gB (s_X7_end_0_Z Z pg tr p1) tx pg bk kp jk sa se sm := by
  have hh := h
  obtain ⟨a, b, c, e, ⟨f1, f2, f3⟩, hw, hB, ht, hk, hv⟩ := h
  exact ⟨q_end_0 hw Z tr p1, rR_Z hh (fun k hk => z_end_0 hk)⟩
theorem st_known_1 {n9 d L z : Nat} {pi : Nat → Nat} {sg ik tk en mo : Nat → Int32} {gN gS0 gS1 : Nat → Nat → Int32} {gB : Nat → Nat → Nat → Int32} {Z tx pg bk kp jk sa se sm : Nat → Int32} (h : rR n9 d L z pi sg ik tk en mo gN gS0 gS1 gB Z tx pg bk kp jk sa se sm) (p1 : Int32) : r_X6_known gN 1 p1 = r_X7_known_1 pg p1 ∧ rR n9 d L z pi sg ik tk en mo gN gS0 gS1 gB (s_X7_known_1_Z Z p1) tx pg bk kp jk sa se sm := by
  have hh := h
  obtain ⟨a, b, c, e, ⟨f1, f2, f3⟩, hw, hB, ht, hk, hv⟩ := h
  exact ⟨q_known_1 hw p1, rR_Z hh (fun k hk => z_known_1 hk)⟩
theorem st_way_1 {n9 d L z : Nat} {pi : Nat → Nat} {sg ik tk en mo : Nat → Int32} {gN gS0 gS1 : Nat → Nat → Int32} {gB : Nat → Nat → Nat → Int32} {Z tx pg bk kp jk sa se sm : Nat → Int32} (h : rR n9 d L z pi sg ik tk en mo gN gS0 gS1 gB Z tx pg bk kp jk sa se sm) (p1 : Int32) : r_X6_way gN 1 p1 = r_X7_way_1 pg p1 ∧ rR n9 d L z pi sg ik tk en mo gN gS0 gS1 gB (s_X7_way_1_Z Z p1) tx pg bk kp jk sa se sm := by
  have hh := h
  obtain ⟨a, b, c, e, ⟨f1, f2, f3⟩, hw, hB, ht, hk, hv⟩ := h
  exact ⟨q_way_1 hw p1, rR_Z hh (fun k hk => z_way_1 hk)⟩
theorem st_end_1 {n9 d L z : Nat} {pi : Nat → Nat} {sg ik tk en mo : Nat → Int32} {gN gS0 gS1 : Nat → Nat → Int32} {gB : Nat → Nat → Nat → Int32} {Z tx pg bk kp jk sa se sm : Nat → Int32} (h : rR n9 d L z pi sg ik tk en mo gN gS0 gS1 gB Z tx pg bk kp jk sa se sm) (tr : Nat → Int32) (p1 : Int32) : r_X6_end gN 1 p1 = r_X7_end_1 Z pg tr p1 ∧ rR n9 d L z pi sg ik tk en mo gN gS0 gS1 gB (s_X7_end_1_Z Z pg tr p1) tx pg bk kp jk sa se sm := by
  have hh := h
  obtain ⟨a, b, c, e, ⟨f1, f2, f3⟩, hw, hB, ht, hk, hv⟩ := h
  exact ⟨q_end_1 hw Z tr p1, rR_Z hh (fun k hk => z_end_1 hk)⟩
theorem st_ahead {n9 d L z : Nat} {pi : Nat → Nat} {sg ik tk en mo : Nat → Int32} {gN gS0 gS1 : Nat → Nat → Int32} {gB : Nat → Nat → Nat → Int32} {Z tx pg bk kp jk sa se sm : Nat → Int32} (h : rR n9 d L z pi sg ik tk en mo gN gS0 gS1 gB Z tx pg bk kp jk sa se sm) (tr : Nat → Int32) (p0 p1 : Int32) : r_X6_ahead gN p0 p1 = r_X7_ahead Z pg tr p0 p1 ∧ rR n9 d L z pi sg ik tk en mo gN gS0 gS1 gB (s_X7_ahead_Z Z pg tr p0 p1) tx pg bk kp jk sa se sm := by
  have hh := h
  obtain ⟨a, b, c, e, ⟨f1, f2, f3⟩, hw, hB, ht, hk, hv⟩ := h
  exact ⟨q_ahead hw Z tr p0 p1, rR_Z hh (fun k hk => z_ahead hk)⟩
theorem st_letters {n9 d L z : Nat} {pi : Nat → Nat} {sg ik tk en mo : Nat → Int32} {gN gS0 gS1 : Nat → Nat → Int32} {gB : Nat → Nat → Nat → Int32} {Z tx pg bk kp jk sa se sm : Nat → Int32} (h : rR n9 d L z pi sg ik tk en mo gN gS0 gS1 gB Z tx pg bk kp jk sa se sm) (tr : Nat → Int32) (p0 : Int32) : r_X6_letters gN p0 = r_X7_letters Z pg tr p0 ∧ rR n9 d L z pi sg ik tk en mo gN gS0 gS1 gB (s_X7_letters_Z Z pg tr p0) tx pg bk kp jk sa se sm := by
  have hh := h
  obtain ⟨a, b, c, e, ⟨f1, f2, f3⟩, hw, hB, ht, hk, hv⟩ := h
  exact ⟨q_letters hw Z tr p0, rR_Z hh (fun k hk => z_letters hk)⟩
theorem st_judge_1 {n9 d L z : Nat} {pi : Nat → Nat} {sg ik tk en mo : Nat → Int32} {gN gS0 gS1 : Nat → Nat → Int32} {gB : Nat → Nat → Nat → Int32} {Z tx pg bk kp jk sa se sm : Nat → Int32} (h : rR n9 d L z pi sg ik tk en mo gN gS0 gS1 gB Z tx pg bk kp jk sa se sm) (tr : Nat → Int32) (p1 : Int64) : r_X6_judge gN 1 p1 = r_X7_judge_1 pg tr p1 ∧ rR n9 d L z pi sg ik tk en mo gN gS0 gS1 gB (s_X7_judge_1_Z Z pg tr p1) tx pg bk kp jk sa se sm := by
  have hh := h
  obtain ⟨a, b, c, e, ⟨f1, f2, f3⟩, hw, hB, ht, hk, hv⟩ := h
  exact ⟨q_judge_1 hw Z tr p1, rR_Z hh (fun k hk => z_judge_1 hk)⟩
theorem st_judge_2 {n9 d L z : Nat} {pi : Nat → Nat} {sg ik tk en mo : Nat → Int32} {gN gS0 gS1 : Nat → Nat → Int32} {gB : Nat → Nat → Nat → Int32} {Z tx pg bk kp jk sa se sm : Nat → Int32} (h : rR n9 d L z pi sg ik tk en mo gN gS0 gS1 gB Z tx pg bk kp jk sa se sm) (tr : Nat → Int32) (p1 : Int64) : r_X6_judge gN 2 p1 = r_X7_judge_2 Z pg tr p1 ∧ rR n9 d L z pi sg ik tk en mo gN gS0 gS1 gB (s_X7_judge_2_Z Z pg tr p1) tx pg bk kp jk sa se sm := by
  have hh := h
  obtain ⟨a, b, c, e, ⟨f1, f2, f3⟩, hw, hB, ht, hk, hv⟩ := h
  exact ⟨q_judge_2 hw Z tr p1, rR_Z hh (fun k hk => z_judge_2 hk)⟩
theorem st_judge_3 {n9 d L z : Nat} {pi : Nat → Nat} {sg ik tk en mo : Nat → Int32} {gN gS0 gS1 : Nat → Nat → Int32} {gB : Nat → Nat → Nat → Int32} {Z tx pg bk kp jk sa se sm : Nat → Int32} (h : rR n9 d L z pi sg ik tk en mo gN gS0 gS1 gB Z tx pg bk kp jk sa se sm) (tr : Nat → Int32) (p1 : Int64) : r_X6_judge gN 3 p1 = r_X7_judge_3 Z pg tr p1 ∧ rR n9 d L z pi sg ik tk en mo gN gS0 gS1 gB (s_X7_judge_3_Z Z pg tr p1) tx pg bk kp jk sa se sm := by
  have hh := h
  obtain ⟨a, b, c, e, ⟨f1, f2, f3⟩, hw, hB, ht, hk, hv⟩ := h
  exact ⟨q_judge_3 hw Z tr p1, rR_Z hh (fun k hk => z_judge_3 hk)⟩
theorem st_judge_4 {n9 d L z : Nat} {pi : Nat → Nat} {sg ik tk en mo : Nat → Int32} {gN gS0 gS1 : Nat → Nat → Int32} {gB : Nat → Nat → Nat → Int32} {Z tx pg bk kp jk sa se sm : Nat → Int32} (h : rR n9 d L z pi sg ik tk en mo gN gS0 gS1 gB Z tx pg bk kp jk sa se sm) (tr : Nat → Int32) (p1 : Int64) : r_X6_judge gN 4 p1 = r_X7_judge_4 Z pg tr p1 ∧ rR n9 d L z pi sg ik tk en mo gN gS0 gS1 gB (s_X7_judge_4_Z Z pg tr p1) tx pg bk kp jk sa se sm := by
  have hh := h
  obtain ⟨a, b, c, e, ⟨f1, f2, f3⟩, hw, hB, ht, hk, hv⟩ := h
  exact ⟨q_judge_4 hw Z tr p1, rR_Z hh (fun k hk => z_judge_4 hk)⟩
theorem st_which {n9 d L z : Nat} {pi : Nat → Nat} {sg ik tk en mo : Nat → Int32} {gN gS0 gS1 : Nat → Nat → Int32} {gB : Nat → Nat → Nat → Int32} {Z tx pg bk kp jk sa se sm : Nat → Int32} (h : rR n9 d L z pi sg ik tk en mo gN gS0 gS1 gB Z tx pg bk kp jk sa se sm) (gT : Nat → Nat → Int32) (tr : Nat → Int32) : r_X6_which gN gT z tk en mo = r_X7_which Z z pg tr sa se sm ∧ rR n9 d L z pi sg ik tk en mo gN gS0 gS1 gB (s_X7_which_Z Z z pg tr sa se sm) tx pg bk kp jk sa se sm := by
  have hh := h
  obtain ⟨a, b, c, e, ⟨f1, f2, f3⟩, hw, hB, ht, hk, hv⟩ := h
  exact ⟨q_which hw sa se sm tk en mo Z tr z hv, rR_Z hh (fun k hk => (z_which hk).trans (by rw [kupd_same f3]))⟩
theorem st_share {n9 d L z : Nat} {pi : Nat → Nat} {sg ik tk en mo : Nat → Int32} {gN gS0 gS1 : Nat → Nat → Int32} {gB : Nat → Nat → Nat → Int32} {Z tx pg bk kp jk sa se sm : Nat → Int32} (h : rR n9 d L z pi sg ik tk en mo gN gS0 gS1 gB Z tx pg bk kp jk sa se sm) (gT : Nat → Nat → Int32) (tr : Nat → Int32) (p0 p1 : Int32) : r_X6_share gN gT p0 p1 = r_X7_share Z pg tr p0 p1 ∧ rR n9 d L z pi sg ik tk en mo gN gS0 gS1 gB (s_X7_share_Z Z pg tr p0) tx pg bk kp jk sa se sm := by
  have hh := h
  obtain ⟨a, b, c, e, ⟨f1, f2, f3⟩, hw, hB, ht, hk, hv⟩ := h
  exact ⟨q_share hw gT Z tr p0 p1, rR_Z hh (fun k hk => z_share hk)⟩
theorem st_luck_ok {n9 d L z : Nat} {pi : Nat → Nat} {sg ik tk en mo : Nat → Int32} {gN gS0 gS1 : Nat → Nat → Int32} {gB : Nat → Nat → Nat → Int32} {Z tx pg bk kp jk sa se sm : Nat → Int32} (h : rR n9 d L z pi sg ik tk en mo gN gS0 gS1 gB Z tx pg bk kp jk sa se sm) (gT : Nat → Nat → Int32) (tr : Nat → Int32) {rn xn : Nat} (hr : rn ≤ 6) (hx : xn ≤ 10) (p2 k40 : Int32) (h40 : k40 = 40) : r_X6_luck gN gT (nI rn) (nI xn) p2 = r_X7_luck_ok Z pg tr rn xn p2 k40 ∧ rR n9 d L z pi sg ik tk en mo gN gS0 gS1 gB (s_X7_luck_ok_Z Z pg tr rn xn k40) tx pg bk kp jk sa se sm := by
  have hh := h
  obtain ⟨a, b, c, e, ⟨f1, f2, f3⟩, hw, hB, ht, hk, hv⟩ := h
  exact ⟨q_luck hw gT Z tr hr hx p2 k40 h40, rR_Z hh (fun k hk => z_luck hk)⟩
theorem st_drawn {n9 d L z : Nat} {pi : Nat → Nat} {sg ik tk en mo : Nat → Int32} {gN gS0 gS1 : Nat → Nat → Int32} {gB : Nat → Nat → Nat → Int32} {Z tx pg bk kp jk sa se sm : Nat → Int32} (h : rR n9 d L z pi sg ik tk en mo gN gS0 gS1 gB Z tx pg bk kp jk sa se sm) (tr : Nat → Int32) (sd : Int64) (p0 : Int32) : r_X6_drawn sd gN p0 = r_X7_drawn Z sd pg tr p0 ∧ s_X6_drawn_sd sd gN p0 = s_X7_drawn_sd Z sd pg tr p0 ∧ rR n9 d L z pi sg ik tk en mo gN gS0 gS1 gB (s_X7_drawn_Z Z sd pg tr p0) tx pg bk kp jk sa se sm := by
  have hh := h
  obtain ⟨a, b, c, e, ⟨f1, f2, f3⟩, hw, hB, ht, hk, hv⟩ := h
  exact ⟨(q_drawn hw Z tr sd p0).1, (q_drawn hw Z tr sd p0).2, rR_Z hh (fun k hk => z_drawn hk)⟩
theorem st_faulty {n9 d L z : Nat} {pi : Nat → Nat} {sg ik tk en mo : Nat → Int32} {gN gS0 gS1 : Nat → Nat → Int32} {gB : Nat → Nat → Nat → Int32} {Z tx pg bk kp jk sa se sm : Nat → Int32} (h : rR n9 d L z pi sg ik tk en mo gN gS0 gS1 gB Z tx pg bk kp jk sa se sm) (re : Nat → Int32) : r_X3_faultPlace L sg = r_X7_readLink L tx re ∧ rR n9 d L z pi sg ik tk en mo gN gS0 gS1 gB (s_X7_readLink_Z (upd (upd Z 2 (nI L)) 0 0) L tx re) tx pg bk kp jk sa se sm := by
  have hh := h
  obtain ⟨a, b, c, e, ⟨f1, f2, f3⟩, hw, hB, ht, hk, hv⟩ := h
  refine ⟨q_fault c ht re, rR_Z hh (fun k hk => ?_)⟩
  rw [sZ_k _ _ _ _ _ (by omega) (by omega), kupd_same f1]
  rcases hk with rfl | rfl | rfl
  · exact f1.symm
  · rfl
  · rfl
theorem st_seed {n9 d L z : Nat} {pi : Nat → Nat} {sg ik tk en mo : Nat → Int32} {gN gS0 gS1 : Nat → Nat → Int32} {gB : Nat → Nat → Nat → Int32} {Z tx pg bk kp jk sa se sm : Nat → Int32} (h : rR n9 d L z pi sg ik tk en mo gN gS0 gS1 gB Z tx pg bk kp jk sa se sm) : rR n9 d L z pi sg ik tk en mo gN gS0 gS1 gB (upd Z 0 0) tx pg bk kp jk sa se sm := rR_Z h (fun k hk => z_0 hk _)
theorem st_known_x {n9 d L z : Nat} {pi : Nat → Nat} {sg ik tk en mo : Nat → Int32} {gN gS0 gS1 : Nat → Nat → Int32} {gB : Nat → Nat → Nat → Int32} {Z tx pg bk kp jk sa se sm : Nat → Int32} (h : rR n9 d L z pi sg ik tk en mo gN gS0 gS1 gB Z tx pg bk kp jk sa se sm) (p0 p1 : Int32) (h9 : ¬ p0 = 0) (h8 : ¬ p0 = 1) : r_X6_known gN p0 p1 = -1 ∧ rR n9 d L z pi sg ik tk en mo gN gS0 gS1 gB (upd Z 0 0) tx pg bk kp jk sa se sm := by
  refine ⟨?_, st_seed h⟩
  unfold r_X6_known
  rw [if_pos (kz01 h9 h8)]
theorem st_way_x {n9 d L z : Nat} {pi : Nat → Nat} {sg ik tk en mo : Nat → Int32} {gN gS0 gS1 : Nat → Nat → Int32} {gB : Nat → Nat → Nat → Int32} {Z tx pg bk kp jk sa se sm : Nat → Int32} (h : rR n9 d L z pi sg ik tk en mo gN gS0 gS1 gB Z tx pg bk kp jk sa se sm) (p0 p1 : Int32) (h9 : ¬ p0 = 0) (h8 : ¬ p0 = 1) : r_X6_way gN p0 p1 = -1 ∧ rR n9 d L z pi sg ik tk en mo gN gS0 gS1 gB (upd Z 0 0) tx pg bk kp jk sa se sm := by
  refine ⟨?_, st_seed h⟩
  unfold r_X6_way
  rw [if_pos (kz01 h9 h8)]
theorem st_end_x {n9 d L z : Nat} {pi : Nat → Nat} {sg ik tk en mo : Nat → Int32} {gN gS0 gS1 : Nat → Nat → Int32} {gB : Nat → Nat → Nat → Int32} {Z tx pg bk kp jk sa se sm : Nat → Int32} (h : rR n9 d L z pi sg ik tk en mo gN gS0 gS1 gB Z tx pg bk kp jk sa se sm) (p0 p1 : Int32) (h9 : ¬ p0 = 0) (h8 : ¬ p0 = 1) : r_X6_end gN p0 p1 = -1 ∧ rR n9 d L z pi sg ik tk en mo gN gS0 gS1 gB (upd Z 0 0) tx pg bk kp jk sa se sm := by
  refine ⟨?_, st_seed h⟩
  unfold r_X6_end
  rw [if_pos (kz01 h9 h8)]
theorem st_tell_x {n9 d L z : Nat} {pi : Nat → Nat} {sg ik tk en mo : Nat → Int32} {gN gS0 gS1 : Nat → Nat → Int32} {gB : Nat → Nat → Nat → Int32} {Z tx pg bk kp jk sa se sm : Nat → Int32} (h : rR n9 d L z pi sg ik tk en mo gN gS0 gS1 gB Z tx pg bk kp jk sa se sm) (p0 p1 p2 : Int32) (h9 : ¬ p0 = 0) (h8 : ¬ p0 = 1) : r_X6_tell gN p0 p1 p2 = -1 ∧ ∃ (d1 : Nat) (pi1 : Nat → Nat), s_X6_tell_ac d p0 p1 p2 = kc (nI d1) ∧ (∀ aB, s_X6_tell_bo d pi aB p0 p1 p2 = kAO aB pi1) ∧ rR n9 d1 L z pi1 sg ik tk en mo (s_X6_tell_gN gN p0 p1 p2) gS0 gS1 (s_X6_tell_gB d pi gN gB p0 p1 p2) (upd Z 0 0) tx pg bk kp jk sa se sm := by
  unfold r_X6_tell s_X6_tell_ac s_X6_tell_bo s_X6_tell_gN s_X6_tell_gB
  simp only [if_pos (kz01 h9 h8)]
  exact ⟨by first | trivial | rfl, d, pi, by first | trivial | rfl, fun _ => by first | trivial | rfl, st_seed h⟩
theorem st_demand_x {n9 d L z : Nat} {pi : Nat → Nat} {sg ik tk en mo : Nat → Int32} {gN gS0 gS1 : Nat → Nat → Int32} {gB : Nat → Nat → Nat → Int32} {Z tx pg bk kp jk sa se sm : Nat → Int32} (h : rR n9 d L z pi sg ik tk en mo gN gS0 gS1 gB Z tx pg bk kp jk sa se sm) (p0 : Int32) (h9 : ¬ p0 = 0) (h8 : ¬ p0 = 1) : r_X6_demand gN p0 = -1 ∧ ∃ (d1 : Nat) (pi1 : Nat → Nat), s_X6_demand_ac d p0 = kc (nI d1) ∧ (∀ aB, s_X6_demand_bo d pi aB p0 = kAO aB pi1) ∧ rR n9 d1 L z pi1 sg ik tk en mo (s_X6_demand_gN gN p0) gS0 gS1 (s_X6_demand_gB d pi gN gB p0) (upd Z 0 0) tx pg bk kp jk sa se sm := by
  unfold r_X6_demand s_X6_demand_ac s_X6_demand_bo s_X6_demand_gN s_X6_demand_gB
  simp only [if_pos (kz01 h9 h8)]
  exact ⟨by first | trivial | rfl, d, pi, by first | trivial | rfl, fun _ => by first | trivial | rfl, st_seed h⟩
theorem st_turn_x {n9 d L z : Nat} {pi : Nat → Nat} {sg ik tk en mo : Nat → Int32} {gN gS0 gS1 : Nat → Nat → Int32} {gB : Nat → Nat → Nat → Int32} {Z tx pg bk kp jk sa se sm : Nat → Int32} (h : rR n9 d L z pi sg ik tk en mo gN gS0 gS1 gB Z tx pg bk kp jk sa se sm) (p0 : Int32) (h9 : ¬ p0 = 0) (h8 : ¬ p0 = 1) : r_X6_turn gN p0 = -1 ∧ ∃ (d1 : Nat) (pi1 : Nat → Nat), s_X6_turn_ac d p0 = kc (nI d1) ∧ (∀ aB, s_X6_turn_bo d pi aB p0 = kAO aB pi1) ∧ rR n9 d1 L z pi1 sg ik tk en mo (s_X6_turn_gN gN p0) gS0 gS1 (s_X6_turn_gB d pi gN gB p0) (upd Z 0 0) tx pg bk kp jk sa se sm := by
  unfold r_X6_turn s_X6_turn_ac s_X6_turn_bo s_X6_turn_gN s_X6_turn_gB
  simp only [if_pos (kz01 h9 h8)]
  exact ⟨by first | trivial | rfl, d, pi, by first | trivial | rfl, fun _ => by first | trivial | rfl, st_seed h⟩
theorem st_poll_x {n9 d L z : Nat} {pi : Nat → Nat} {sg ik tk en mo : Nat → Int32} {gN gS0 gS1 : Nat → Nat → Int32} {gB : Nat → Nat → Nat → Int32} {Z tx pg bk kp jk sa se sm : Nat → Int32} (h : rR n9 d L z pi sg ik tk en mo gN gS0 gS1 gB Z tx pg bk kp jk sa se sm) (p0 : Int32) (h9 : ¬ p0 = 0) (h8 : ¬ p0 = 1) : r_X6_poll gN p0 = -1 ∧ ∃ (d1 : Nat) (pi1 : Nat → Nat), s_X6_poll_ac d gN p0 = kc (nI d1) ∧ (∀ aB, s_X6_poll_bo d pi aB gN p0 = kAO aB pi1) ∧ rR n9 d1 L z pi1 sg ik tk en mo (s_X6_poll_gN gN p0) gS0 gS1 (s_X6_poll_gB d pi gN gB p0) (upd Z 0 0) tx pg bk kp jk sa se sm := by
  unfold r_X6_poll s_X6_poll_ac s_X6_poll_bo s_X6_poll_gN s_X6_poll_gB
  simp only [if_pos (kz01 h9 h8)]
  exact ⟨by first | trivial | rfl, d, pi, by first | trivial | rfl, fun _ => by first | trivial | rfl, st_seed h⟩
theorem st_see_x {n9 d L z : Nat} {pi : Nat → Nat} {sg ik tk en mo : Nat → Int32} {gN gS0 gS1 : Nat → Nat → Int32} {gB : Nat → Nat → Nat → Int32} {Z tx pg bk kp jk sa se sm : Nat → Int32} (h : rR n9 d L z pi sg ik tk en mo gN gS0 gS1 gB Z tx pg bk kp jk sa se sm) (p0 p1 p2 : Int32) (h9 : ¬ p1 = 0) (h8 : ¬ p1 = 1) : r_X6_see z p0 p1 p2 = -1 ∧ ∃ z1, s_X6_see_sz z p0 p1 p2 = kc (nI z1) ∧ rR n9 d L z1 pi sg ik (s_X6_see_tk z tk p0 p1 p2) (s_X6_see_en z en p0 p1 p2) (s_X6_see_mo z mo p0 p1 p2) gN gS0 gS1 gB (upd Z 0 0) tx pg bk kp jk sa se sm := by
  unfold r_X6_see s_X6_see_sz s_X6_see_tk s_X6_see_en s_X6_see_mo
  simp only [if_pos (kz01 h9 h8)]
  exact ⟨by first | trivial | rfl, z, by first | trivial | rfl, st_seed h⟩
theorem st_keep_x {n9 d L z : Nat} {pi : Nat → Nat} {sg ik tk en mo : Nat → Int32} {gN gS0 gS1 : Nat → Nat → Int32} {gB : Nat → Nat → Nat → Int32} {Z tx pg bk kp jk sa se sm : Nat → Int32} (h : rR n9 d L z pi sg ik tk en mo gN gS0 gS1 gB Z tx pg bk kp jk sa se sm) (p0 : Int32) (h9 : ¬ p0 = 0) (h8 : ¬ p0 = 1) : r_X6_keep_x p0 = -1 ∧ rR n9 d L z pi sg ik tk en mo gN gS0 gS1 gB (upd Z 0 0) tx pg bk kp jk sa se sm := by
  refine ⟨?_, st_seed h⟩
  unfold r_X6_keep_x
  rw [ite_self]
theorem st_again_x {n9 d L z : Nat} {pi : Nat → Nat} {sg ik tk en mo : Nat → Int32} {gN gS0 gS1 : Nat → Nat → Int32} {gB : Nat → Nat → Nat → Int32} {Z tx pg bk kp jk sa se sm : Nat → Int32} (h : rR n9 d L z pi sg ik tk en mo gN gS0 gS1 gB Z tx pg bk kp jk sa se sm) (p0 : Int32) (h9 : ¬ p0 = 0) (h8 : ¬ p0 = 1) : r_X6_again_x p0 = -1 ∧ rR n9 d L z pi sg ik tk en mo gN gS0 gS1 gB (upd Z 0 0) tx pg bk kp jk sa se sm := by
  refine ⟨?_, st_seed h⟩
  unfold r_X6_again_x
  rw [ite_self]
theorem st_judge_x {n9 d L z : Nat} {pi : Nat → Nat} {sg ik tk en mo : Nat → Int32} {gN gS0 gS1 : Nat → Nat → Int32} {gB : Nat → Nat → Nat → Int32} {Z tx pg bk kp jk sa se sm : Nat → Int32} (h : rR n9 d L z pi sg ik tk en mo gN gS0 gS1 gB Z tx pg bk kp jk sa se sm) (p0 : Int32) (p1 : Int64) (hx : r_X7_in p0.toInt64 1 4 = 0) : r_X6_judge gN p0 p1 = -2 ∧ rR n9 d L z pi sg ik tk en mo gN gS0 gS1 gB (upd Z 0 0) tx pg bk kp jk sa se sm := by
  refine ⟨?_, st_seed h⟩
  unfold r_X6_judge
  rcases (kin32 (a := 1) (b := 4) rfl rfl).mp hx with q | q
  · rw [if_pos q]
  · by_cases c : p0 < 1
    · rw [if_pos c]
    · rw [if_neg c, if_pos q]
theorem st_luck_x {n9 d L z : Nat} {pi : Nat → Nat} {sg ik tk en mo : Nat → Int32} {gN gS0 gS1 : Nat → Nat → Int32} {gB : Nat → Nat → Nat → Int32} {Z tx pg bk kp jk sa se sm : Nat → Int32} (h : rR n9 d L z pi sg ik tk en mo gN gS0 gS1 gB Z tx pg bk kp jk sa se sm) (gT : Nat → Nat → Int32) (p0 p1 p2 : Int32) (hx : r_X7_in p0.toInt64 0 6 = 0 ∨ r_X7_in p1.toInt64 0 10 = 0) : r_X6_luck gN gT p0 p1 p2 = r_X7_luck_x p0 ∧ rR n9 d L z pi sg ik tk en mo gN gS0 gS1 gB (s_X7_luck_x_Z Z p0) tx pg bk kp jk sa se sm := by
  refine ⟨?_, rR_Z h (fun k hk => z_luckx hk)⟩
  unfold r_X6_luck r_X7_luck_x
  rw [ite_self]
  by_cases c1 : p0 < 0
  · rw [if_pos c1]
  · rw [if_neg c1]
    by_cases c2 : 6 < p0
    · rw [if_pos c2]
    · rw [if_neg c2]
      by_cases c3 : p1 < 0
      · rw [if_pos c3]
      · rw [if_neg c3]
        rcases hx with q | q
        · exact absurd ((kin32 (a := 0) (b := 6) rfl rfl).mp q) (fun w => w.elim c1 c2)
        · rcases (kin32 (a := 0) (b := 10) rfl rfl).mp q with w | w
          · exact absurd w c3
          · rw [if_neg (Int32.not_le.mpr w)]
