theorem rE0_fr {X w w1 : Nat → Int32} (h : rE0 X w) (hf : ∀ k, 0 ≤ k → k < 16 → w1 k = w k) : rE0 X w1 := by
  obtain ⟨h0, h1, h2, h3, h4, h5, h6, h7, h8, h9, h10, h11, h12, h13, h14, h15⟩ := h
  exact ⟨(hf 0 (by decide) (by decide)).trans h0, (hf 1 (by decide) (by decide)).trans h1, (hf 2 (by decide) (by decide)).trans h2, (hf 3 (by decide) (by decide)).trans h3, (hf 4 (by decide) (by decide)).trans h4, (hf 5 (by decide) (by decide)).trans h5, (hf 6 (by decide) (by decide)).trans h6, (hf 7 (by decide) (by decide)).trans h7, (hf 8 (by decide) (by decide)).trans h8, (hf 9 (by decide) (by decide)).trans h9, (hf 10 (by decide) (by decide)).trans h10, (hf 11 (by decide) (by decide)).trans h11, (hf 12 (by decide) (by decide)).trans h12, (hf 13 (by decide) (by decide)).trans h13, (hf 14 (by decide) (by decide)).trans h14, (hf 15 (by decide) (by decide)).trans h15⟩
theorem rE16_fr {X w w1 : Nat → Int32} (h : rE16 X w) (hf : ∀ k, 16 ≤ k → k < 32 → w1 k = w k) : rE16 X w1 := by
  obtain ⟨h0, h1, h2, h3, h4, h5, h6, h7, h8, h9, h10, h11, h12, h13, h14, h15⟩ := h
  exact ⟨(hf 16 (by decide) (by decide)).trans h0, (hf 17 (by decide) (by decide)).trans h1, (hf 18 (by decide) (by decide)).trans h2, (hf 19 (by decide) (by decide)).trans h3, (hf 20 (by decide) (by decide)).trans h4, (hf 21 (by decide) (by decide)).trans h5, (hf 22 (by decide) (by decide)).trans h6, (hf 23 (by decide) (by decide)).trans h7, (hf 24 (by decide) (by decide)).trans h8, (hf 25 (by decide) (by decide)).trans h9, (hf 26 (by decide) (by decide)).trans h10, (hf 27 (by decide) (by decide)).trans h11, (hf 28 (by decide) (by decide)).trans h12, (hf 29 (by decide) (by decide)).trans h13, (hf 30 (by decide) (by decide)).trans h14, (hf 31 (by decide) (by decide)).trans h15⟩
theorem rY2_fr {Y w w1 : Nat → Int32} (h : rY2 Y w) (hf : ∀ k, k = 32 ∨ (34 ≤ k ∧ k < 43) → w1 k = w k) : rY2 Y w1 := by
  obtain ⟨yo, yn, yl⟩ := h
  refine ⟨(hf 32 (by decide)).trans yo, (hf 34 (by decide)).trans yn, fun q => ?_⟩
  obtain ⟨l1, l2, l3, l4, l5, l6, l7, l8⟩ := yl q
  exact ⟨(hf 35 (by decide)).trans l1, (hf 36 (by decide)).trans l2, (hf 37 (by decide)).trans l3, (hf 38 (by decide)).trans l4, (hf 39 (by decide)).trans l5, (hf 40 (by decide)).trans l6, (hf 41 (by decide)).trans l7, (hf 42 (by decide)).trans l8⟩
theorem rY3_fr {Y w w1 : Nat → Int32} (h : rY3 Y w) (hf : ∀ k, k = 33 ∨ (43 ≤ k ∧ k < 52) → w1 k = w k) : rY3 Y w1 := by
  obtain ⟨yo, yn, yl⟩ := h
  refine ⟨(hf 33 (by decide)).trans yo, (hf 43 (by decide)).trans yn, fun q => ?_⟩
  obtain ⟨l1, l2, l3, l4, l5, l6, l7, l8⟩ := yl q
  exact ⟨(hf 44 (by decide)).trans l1, (hf 45 (by decide)).trans l2, (hf 46 (by decide)).trans l3, (hf 47 (by decide)).trans l4, (hf 48 (by decide)).trans l5, (hf 49 (by decide)).trans l6, (hf 50 (by decide)).trans l7, (hf 51 (by decide)).trans l8⟩
def pE (X : Nat → Int32) : Prop := 0 ≤ X 1 ∧ 0 ≤ X 4
theorem pE_hear {X T : Nat → Int32} (h : pE X) : pE (kHear X T) := by
  obtain ⟨h1, h4⟩ := h
  unfold kHear
  repeat' split
  all_goals first | exact ⟨h1, h4⟩ | exact ⟨h1, h1⟩
theorem pE_listen {X Y : Nat → Int32} (h : pE X) : pE (s_X0_listen_X X Y) := by
  rw [klisten]
  split
  · exact ⟨h.1, h.2⟩
  · exact pE_hear h
theorem pE_fall {X : Nat → Int32} (h : pE X) : pE (s_X0_fallIfSilent_X X) := by
  obtain ⟨h1, h4⟩ := h
  unfold s_X0_fallIfSilent_X
  repeat' split
  all_goals first | exact ⟨h1, h4⟩ | exact ⟨h1, h1⟩
theorem pE_send {z X : Nat → Int32} (h : pE X) : pE (s_X5_sendIfDue_X z X) := by
  obtain ⟨h1, h4⟩ := h
  unfold s_X5_sendIfDue_X
  repeat' split
  all_goals exact ⟨h1, h4⟩
theorem z_send (z X : Nat → Int32) (k : Nat) (h1 : k ≠ 1) (h3 : k ≠ 3) : s_X5_sendIfDue_z z X k = z k := by
  unfold s_X5_sendIfDue_z
  repeat' split
  all_goals first | rfl | rw [pk_un h1, pk_un h3]
theorem y_send (z X Y : Nat → Int32) (k : Nat) (h : 9 ≤ k) : s_X5_sendIfDue_Y z X Y k = Y k := by
  unfold s_X5_sendIfDue_Y
  repeat' split
  all_goals first | rfl | ((repeat rw [pk_un (by omega)]); done)
def mUp (V : Nat → Int32) : Nat → Int32 := if V 5 = 2 then (if V 21 = 2 then (upd V 54 ((V 54) + 1)) else upd V 54 ((V 54) + 0)) else upd V 54 ((V 54) + 0)
/-- the last part of a tick: the second end's letter, and the time that both were up -/
theorem mrest_f (A B : Nat → Int32) : (if A 26 = 1 then (if (s_X7_sendOn_1_f B (upd A 25 (r_X7_max ((A 25) - 1) 0))) 5 = 2 then (if (s_X7_sendOn_1_f B (upd A 25 (r_X7_max ((A 25) - 1) 0))) 21 = 2 then (upd (s_X7_sendOn_1_f B (upd A 25 (r_X7_max ((A 25) - 1) 0))) 54 (((s_X7_sendOn_1_f B (upd A 25 (r_X7_max ((A 25) - 1) 0))) 54) + 1)) else upd (s_X7_sendOn_1_f B (upd A 25 (r_X7_max ((A 25) - 1) 0))) 54 (((s_X7_sendOn_1_f B (upd A 25 (r_X7_max ((A 25) - 1) 0))) 54) + 0)) else upd (s_X7_sendOn_1_f B (upd A 25 (r_X7_max ((A 25) - 1) 0))) 54 (((s_X7_sendOn_1_f B (upd A 25 (r_X7_max ((A 25) - 1) 0))) 54) + 0)) else if (r_X7_max ((A 25) - 1) 0) = 0 then (if (r_X7_isStill_16 (upd A 25 (r_X7_max ((A 25) - 1) 0))) = 0 then (if (s_X7_sendOn_1_f B (upd A 25 (r_X7_max ((A 25) - 1) 0))) 5 = 2 then (if (s_X7_sendOn_1_f B (upd A 25 (r_X7_max ((A 25) - 1) 0))) 21 = 2 then (upd (s_X7_sendOn_1_f B (upd A 25 (r_X7_max ((A 25) - 1) 0))) 54 (((s_X7_sendOn_1_f B (upd A 25 (r_X7_max ((A 25) - 1) 0))) 54) + 1)) else upd (s_X7_sendOn_1_f B (upd A 25 (r_X7_max ((A 25) - 1) 0))) 54 (((s_X7_sendOn_1_f B (upd A 25 (r_X7_max ((A 25) - 1) 0))) 54) + 0)) else upd (s_X7_sendOn_1_f B (upd A 25 (r_X7_max ((A 25) - 1) 0))) 54 (((s_X7_sendOn_1_f B (upd A 25 (r_X7_max ((A 25) - 1) 0))) 54) + 0)) else if A 5 = 2 then (if A 21 = 2 then (upd (upd A 25 (r_X7_max ((A 25) - 1) 0)) 54 ((A 54) + 1)) else upd (upd A 25 (r_X7_max ((A 25) - 1) 0)) 54 ((A 54) + 0)) else upd (upd A 25 (r_X7_max ((A 25) - 1) 0)) 54 ((A 54) + 0)) else if A 5 = 2 then (if A 21 = 2 then (upd (upd A 25 (r_X7_max ((A 25) - 1) 0)) 54 ((A 54) + 1)) else upd (upd A 25 (r_X7_max ((A 25) - 1) 0)) 54 ((A 54) + 0)) else upd (upd A 25 (r_X7_max ((A 25) - 1) 0)) 54 ((A 54) + 0)) = mUp (mSend1_f B A) := by
  unfold mUp mSend1_f
  by_cases h1 : A 26 = 1
  · simp only [if_pos h1]
  · simp only [if_neg h1]
    by_cases h2 : (r_X7_max ((A 25) - 1) 0) = 0
    · simp only [if_pos h2]
      by_cases h3 : (r_X7_isStill_16 (upd A 25 (r_X7_max ((A 25) - 1) 0))) = 0
      · simp only [if_pos h3]
      · simp only [if_neg h3]
        rfl
    · simp only [if_neg h2]
      rfl
theorem mrest_Z (A B : Nat → Int32) : (if A 26 = 1 then (if (s_X7_sendOn_1_f B (upd A 25 (r_X7_max ((A 25) - 1) 0))) 5 = 2 then (if (s_X7_sendOn_1_f B (upd A 25 (r_X7_max ((A 25) - 1) 0))) 21 = 2 then (s_X7_sendOn_1_Z B) else s_X7_sendOn_1_Z B) else s_X7_sendOn_1_Z B) else if (r_X7_max ((A 25) - 1) 0) = 0 then (if (r_X7_isStill_16 (upd A 25 (r_X7_max ((A 25) - 1) 0))) = 0 then (if (s_X7_sendOn_1_f B (upd A 25 (r_X7_max ((A 25) - 1) 0))) 5 = 2 then (if (s_X7_sendOn_1_f B (upd A 25 (r_X7_max ((A 25) - 1) 0))) 21 = 2 then (s_X7_sendOn_1_Z B) else s_X7_sendOn_1_Z B) else s_X7_sendOn_1_Z B) else if A 5 = 2 then (if A 21 = 2 then B else B) else B) else if A 5 = 2 then (if A 21 = 2 then B else B) else B) = mSend1_Z B A := by
  unfold mSend1_Z
  repeat' split
  all_goals first | rfl | contradiction
set_option maxHeartbeats 4000000 in
theorem mtick_f (Z f : Nat → Int32) : s_X7_tick_f Z f = mUp (mSend1_f (t_X7_tick_2_Z (s_X7_take_1_Z (s_X7_take_0_Z Z (upd f 52 ((f 52) + 1))) (s_X7_take_0_f Z (upd f 52 ((f 52) + 1)))) (mFall16 (t_X7_tick_1_f (s_X7_take_1_f (s_X7_take_0_Z Z (upd f 52 ((f 52) + 1))) (s_X7_take_0_f Z (upd f 52 ((f 52) + 1))))))) (t_X7_tick_2_f (s_X7_take_1_Z (s_X7_take_0_Z Z (upd f 52 ((f 52) + 1))) (s_X7_take_0_f Z (upd f 52 ((f 52) + 1)))) (mFall16 (t_X7_tick_1_f (s_X7_take_1_f (s_X7_take_0_Z Z (upd f 52 ((f 52) + 1))) (s_X7_take_0_f Z (upd f 52 ((f 52) + 1)))))))) := by
  unfold s_X7_tick_f
  generalize (s_X7_take_1_f (s_X7_take_0_Z Z (upd f 52 ((f 52) + 1))) (s_X7_take_0_f Z (upd f 52 ((f 52) + 1)))) = W2
  generalize (s_X7_take_1_Z (s_X7_take_0_Z Z (upd f 52 ((f 52) + 1))) (s_X7_take_0_f Z (upd f 52 ((f 52) + 1)))) = Z2
  generalize t_X7_tick_1_f W2 = F
  unfold mFall16
  by_cases c1 : F 21 = 0
  · rw [if_pos c1, if_pos c1]
    exact mrest_f (t_X7_tick_2_f Z2 F) (t_X7_tick_2_Z Z2 F)
  · rw [if_neg c1, if_neg c1]
    by_cases c2 : r_X7_trusts_16 F = 0
    · rw [if_pos c2, if_pos c2]
      by_cases c3 : F 24 < r_X7_limitOn_16 F
      · rw [if_pos c3, if_pos c3]
        exact mrest_f (t_X7_tick_2_f Z2 F) (t_X7_tick_2_Z Z2 F)
      · rw [if_neg c3, if_neg c3]
        exact mrest_f (t_X7_tick_2_f Z2 (upd (upd (upd (upd (upd F 21 0) 22 0) 19 (F 16)) 20 (F 17)) 27 0)) (t_X7_tick_2_Z Z2 (upd (upd (upd (upd (upd F 21 0) 22 0) 19 (F 16)) 20 (F 17)) 27 0))
    · rw [if_neg c2, if_neg c2]
      exact mrest_f (t_X7_tick_2_f Z2 F) (t_X7_tick_2_Z Z2 F)
set_option maxHeartbeats 4000000 in
theorem mtick_Z (Z f : Nat → Int32) : s_X7_tick_Z Z f = mSend1_Z (t_X7_tick_2_Z (s_X7_take_1_Z (s_X7_take_0_Z Z (upd f 52 ((f 52) + 1))) (s_X7_take_0_f Z (upd f 52 ((f 52) + 1)))) (mFall16 (t_X7_tick_1_f (s_X7_take_1_f (s_X7_take_0_Z Z (upd f 52 ((f 52) + 1))) (s_X7_take_0_f Z (upd f 52 ((f 52) + 1))))))) (t_X7_tick_2_f (s_X7_take_1_Z (s_X7_take_0_Z Z (upd f 52 ((f 52) + 1))) (s_X7_take_0_f Z (upd f 52 ((f 52) + 1)))) (mFall16 (t_X7_tick_1_f (s_X7_take_1_f (s_X7_take_0_Z Z (upd f 52 ((f 52) + 1))) (s_X7_take_0_f Z (upd f 52 ((f 52) + 1))))))) := by
  unfold s_X7_tick_Z
  generalize (s_X7_take_1_f (s_X7_take_0_Z Z (upd f 52 ((f 52) + 1))) (s_X7_take_0_f Z (upd f 52 ((f 52) + 1)))) = W2
  generalize (s_X7_take_1_Z (s_X7_take_0_Z Z (upd f 52 ((f 52) + 1))) (s_X7_take_0_f Z (upd f 52 ((f 52) + 1)))) = Z2
  generalize t_X7_tick_1_f W2 = F
  unfold mFall16
  by_cases c1 : F 21 = 0
  · rw [if_pos c1, if_pos c1]
    exact mrest_Z (t_X7_tick_2_f Z2 F) (t_X7_tick_2_Z Z2 F)
  · rw [if_neg c1, if_neg c1]
    by_cases c2 : r_X7_trusts_16 F = 0
    · rw [if_pos c2, if_pos c2]
      by_cases c3 : F 24 < r_X7_limitOn_16 F
      · rw [if_pos c3, if_pos c3]
        exact mrest_Z (t_X7_tick_2_f Z2 F) (t_X7_tick_2_Z Z2 F)
      · rw [if_neg c3, if_neg c3]
        exact mrest_Z (t_X7_tick_2_f Z2 (upd (upd (upd (upd (upd F 21 0) 22 0) 19 (F 16)) 20 (F 17)) 27 0)) (t_X7_tick_2_Z Z2 (upd (upd (upd (upd (upd F 21 0) 22 0) 19 (F 16)) 20 (F 17)) 27 0))
    · rw [if_neg c2, if_neg c2]
      exact mrest_Z (t_X7_tick_2_f Z2 F) (t_X7_tick_2_Z Z2 F)
theorem ctick (g : Nat → Nat → Int32) : s_X5_tick_g g = kg (s_X5_sendIfDue_X (upd (g 4) 0 ((g 4 0) + 1)) (s_X0_fallIfSilent_X (s_X0_listen_X (g 0) (g 3)))) (s_X5_sendIfDue_X (s_X5_sendIfDue_z (upd (g 4) 0 ((g 4 0) + 1)) (s_X0_fallIfSilent_X (s_X0_listen_X (g 0) (g 3)))) (s_X0_fallIfSilent_X (s_X0_listen_X (g 1) (g 2)))) (s_X5_sendIfDue_Y (upd (g 4) 0 ((g 4 0) + 1)) (s_X0_fallIfSilent_X (s_X0_listen_X (g 0) (g 3))) (s_X4_takeOff_Y (g 2))) (s_X5_sendIfDue_Y (s_X5_sendIfDue_z (upd (g 4) 0 ((g 4 0) + 1)) (s_X0_fallIfSilent_X (s_X0_listen_X (g 0) (g 3)))) (s_X0_fallIfSilent_X (s_X0_listen_X (g 1) (g 2))) (s_X4_takeOff_Y (g 3))) (if r_X5_areBothUp (s_X5_sendIfDue_X (upd (g 4) 0 ((g 4 0) + 1)) (s_X0_fallIfSilent_X (s_X0_listen_X (g 0) (g 3)))) (s_X5_sendIfDue_X (s_X5_sendIfDue_z (upd (g 4) 0 ((g 4 0) + 1)) (s_X0_fallIfSilent_X (s_X0_listen_X (g 0) (g 3)))) (s_X0_fallIfSilent_X (s_X0_listen_X (g 1) (g 2)))) = 0 then (s_X5_sendIfDue_z (s_X5_sendIfDue_z (upd (g 4) 0 ((g 4 0) + 1)) (s_X0_fallIfSilent_X (s_X0_listen_X (g 0) (g 3)))) (s_X0_fallIfSilent_X (s_X0_listen_X (g 1) (g 2)))) else upd (s_X5_sendIfDue_z (s_X5_sendIfDue_z (upd (g 4) 0 ((g 4 0) + 1)) (s_X0_fallIfSilent_X (s_X0_listen_X (g 0) (g 3)))) (s_X0_fallIfSilent_X (s_X0_listen_X (g 1) (g 2)))) 2 ((s_X5_sendIfDue_z (s_X5_sendIfDue_z (upd (g 4) 0 ((g 4 0) + 1)) (s_X0_fallIfSilent_X (s_X0_listen_X (g 0) (g 3)))) (s_X0_fallIfSilent_X (s_X0_listen_X (g 1) (g 2)))) 2 + 1)) := by
  unfold s_X5_tick_g
  split <;> rfl
theorem ztake_0b (Z w : Nat → Int32) (h : ¬ Z 18 = 0) : s_X7_take_0_Z Z w = Z := by
  unfold s_X7_take_0_Z
  repeat' split
  all_goals first | rfl | contradiction
theorem ztake_1b (Z w : Nat → Int32) (h : ¬ Z 18 = 1) : s_X7_take_1_Z Z w = Z := by
  unfold s_X7_take_1_Z
  repeat' split
  all_goals first | rfl | contradiction
theorem mup_fr (V : Nat → Int32) (k : Nat) (hk : k ≠ 54) : mUp V k = V k := by
  unfold mUp
  repeat' split
  all_goals exact pk_un hk
/-- a world of the class and a row of the reference that say the same, with what is to be lost -/
def rT (g : Nat → Nat → Int32) (Z w : Nat → Int32) : Prop := rE0 (g 0) w ∧ rE16 (g 1) w ∧ rY2 (g 2) w ∧ rY3 (g 3) w ∧ (w 52 = g 4 0 ∧ w 53 = g 4 1 ∧ w 54 = g 4 2) ∧ bW g ∧ (pE (g 0) ∧ pE (g 1)) ∧ ((Z 18 = 0 → g 3 10 = Z 19) ∧ (¬ Z 18 = 0 → g 3 10 = 0)) ∧ ((Z 18 = 1 → g 2 10 = Z 19) ∧ (¬ Z 18 = 1 → g 2 10 = 0)) ∧ rS (g 4) Z
theorem rS_fr {z z1 Z Z1 : Nat → Int32} (h : rS z Z) (h3 : z1 3 = z 3) (h20 : Z1 20 = Z 20) (h21 : Z1 21 = Z 21) : rS z1 Z1 := by
  obtain ⟨n, k, hn, a, b⟩ := h
  exact ⟨n, k, hn, h20.trans a, by rw [h21, h3]; exact b⟩
set_option maxHeartbeats 4000000 in
theorem rtick {g : Nat → Nat → Int32} {Z w : Nat → Int32} (h : rT g Z w) : rT (s_X5_tick_g g) (s_X7_tick_Z Z w) (s_X7_tick_f Z w) := by
  obtain ⟨hE0, hE1, hY2, hY3, ⟨hc, hs, hu⟩, hb, ⟨hp0, hp1⟩, hL0, hL1, hS⟩ := h
  have hb9 := b_s_X5_tick_g g hb
  obtain ⟨bE0, bE1, bY2, bY3⟩ := hb
  rw [mtick_f, mtick_Z]
  rw [ctick] at hb9 ⊢
  have a0 : ∀ k, k ≠ 52 → (upd w 52 (w 52 + 1)) k = w k := fun k hk => pk_un hk
  have a52 : (upd w 52 (w 52 + 1)) 52 = w 52 + 1 := pk_us
  generalize upd w 52 (w 52 + 1) = w0 at a0 a52 ⊢
  have T0 := rtake_0 (Z := Z) (w := w0) (rE0_fr hE0 (fun k _ _ => a0 k (by omega))) (rY3_fr hY3 (fun k _ => a0 k (by omega))) bE0 bY3 hL0
  have F0 := ftake_0 Z w0
  have G0 := ztake_0 Z w0
  have N0 := ztake_0b Z w0
  generalize s_X7_take_0_f Z w0 = w1 at T0 F0 ⊢
  generalize s_X7_take_0_Z Z w0 = Z1 at T0 G0 N0 ⊢
  obtain ⟨E0, V3, M0⟩ := T0
  have L1 : (Z1 18 = 1 → g 2 10 = Z1 19) ∧ (¬ Z1 18 = 1 → g 2 10 = 0) := by
    have g18 := G0 18 (by decide)
    refine ⟨fun z => ?_, fun z => hL1.2 (fun q => z (g18.trans q))⟩
    have z18 : Z 18 = 1 := g18.symm.trans z
    rw [N0 (by rw [z18]; decide)]
    exact hL1.1 z18
  have T1 := rtake_1 (Z := Z1) (w := w1) (rE16_fr hE1 (fun k _ _ => (F0 k (by omega) (by omega)).trans (a0 k (by omega)))) (rY2_fr hY2 (fun k _ => (F0 k (by omega) (by omega)).trans (a0 k (by omega)))) bE1 bY2 L1
  have F1 := ftake_1 Z1 w1
  have G1 := ztake_1 Z1 w1
  have N1 := ztake_1b Z1 w1
  generalize s_X7_take_1_f Z1 w1 = w2 at T1 F1 ⊢
  generalize s_X7_take_1_Z Z1 w1 = Z2 at T1 G1 N1 ⊢
  obtain ⟨E1, V2, M1⟩ := T1
  have L0 : (Z2 18 = 0 → (s_X4_takeOff_Y (g 3)) 10 = Z2 19) ∧ (¬ Z2 18 = 0 → (s_X4_takeOff_Y (g 3)) 10 = 0) := by
    have g18 := G1 18 (by decide)
    refine ⟨fun z => ?_, fun z => M0.2 (fun q => z (g18.trans q))⟩
    have z18 : Z1 18 = 0 := g18.symm.trans z
    rw [N1 (by rw [z18]; decide)]
    exact M0.1 z18
  have bL0 := b_s_X0_listen_X (g 0) (g 3) bE0 bY3
  have bL1 := b_s_X0_listen_X (g 1) (g 2) bE1 bY2
  have pL0 : pE (s_X0_listen_X (g 0) (g 3)) := pE_listen hp0
  have pL1 : pE (s_X0_listen_X (g 1) (g 2)) := pE_listen hp1
  have E0 := rE0_fr E0 (fun k _ h => F1 k (Or.inl h) (by omega))
  have V3 := rY3_fr V3 (fun k h => F1 k (Or.inr (by omega)) (by omega))
  generalize s_X0_listen_X (g 0) (g 3) = X0 at *
  generalize s_X0_listen_X (g 1) (g 2) = X1 at *
  have E0 := rfall_0 E0 bL0 pL0.2
  have K0 := ffall_0 w2
  generalize t_X7_tick_1_f w2 = w3 at E0 K0 ⊢
  have E1 := rfall_16 (rE16_fr E1 (fun k h _ => K0 k h)) bL1 pL1.2
  have K1 := ffall_16 w3
  generalize mFall16 w3 = w4 at E1 K1 ⊢
  have E0 := rE0_fr E0 (fun k _ h => K1 k (Or.inl h))
  have V2 := rY2_fr V2 (fun k h => (K1 k (Or.inr (by omega))).trans (K0 k (by omega)))
  have V3 := rY3_fr V3 (fun k h => (K1 k (Or.inr (by omega))).trans (K0 k (by omega)))
  have hi : ∀ k, 53 ≤ k → w4 k = w k := fun k hk => (K1 k (Or.inr (by omega))).trans ((K0 k (by omega)).trans ((F1 k (Or.inr (by omega)) (by omega)).trans ((F0 k (by omega) (by omega)).trans (a0 k (by omega)))))
  have h52 : w4 52 = w 52 + 1 := (K1 52 (Or.inr (by decide))).trans ((K0 52 (by decide)).trans ((F1 52 (Or.inr (by decide)) (by decide)).trans ((F0 52 (by decide) (by decide)).trans a52)))
  have bF0 := b_s_X0_fallIfSilent_X X0 bL0
  have bF1 := b_s_X0_fallIfSilent_X X1 bL1
  have pF0 : pE (s_X0_fallIfSilent_X X0) := pE_fall pL0
  have pF1 : pE (s_X0_fallIfSilent_X X1) := pE_fall pL1
  generalize s_X0_fallIfSilent_X X0 = U0 at *
  generalize s_X0_fallIfSilent_X X1 = U1 at *
  have bT2 := b_s_X4_takeOff_Y (g 2) bY2
  have bT3 := b_s_X4_takeOff_Y (g 3) bY3
  generalize s_X4_takeOff_Y (g 2) = Y2 at *
  generalize s_X4_takeOff_Y (g 3) = Y3 at *
  have zs : rS (upd (g 4) 0 (g 4 0 + 1)) Z2 := rS_fr hS rfl ((G1 20 (by decide)).trans (G0 20 (by decide))) ((G1 21 (by decide)).trans (G0 21 (by decide)))
  have z0 : (upd (g 4) 0 (g 4 0 + 1)) 0 = g 4 0 + 1 := rfl
  have z1 : (upd (g 4) 0 (g 4 0 + 1)) 1 = g 4 1 := rfl
  have z2 : (upd (g 4) 0 (g 4 0 + 1)) 2 = g 4 2 := rfl
  generalize upd (g 4) 0 (g 4 0 + 1) = z at *
  have S0 := rsend_0 (w := w4) (Z := Z2) (z := z) E0 V2 zs bF0 ((hi 53 (by decide)).trans (hs.trans z1.symm))
  have Q0 := fsend_0 Z2 w4
  have O0 := zsend_0 Z2 w4
  generalize t_X7_tick_2_f Z2 w4 = w5 at S0 Q0 ⊢
  generalize t_X7_tick_2_Z Z2 w4 = Z3 at S0 O0 ⊢
  obtain ⟨E0, V2, zs, c53⟩ := S0
  have pS0 : pE (s_X5_sendIfDue_X z U0) := pE_send pF0
  have y2 := y_send z U0 Y2 10 (by decide)
  have za := z_send z U0 0 (by decide) (by decide)
  have zb := z_send z U0 2 (by decide) (by decide)
  generalize s_X5_sendIfDue_X z U0 = P0 at *
  generalize s_X5_sendIfDue_Y z U0 Y2 = R2 at *
  generalize s_X5_sendIfDue_z z U0 = t at *
  have S1 := rsend_1 (w := w5) (Z := Z3) (z := t) (rE16_fr E1 (fun k h h2 => Q0 k h (Or.inl (by omega)) (by omega))) (rY3_fr V3 (fun k h => Q0 k (by omega) (by omega) (by omega))) zs bF1 c53
  have Q1 := fsend_1 Z3 w5
  have O1 := zsend_1 Z3 w5
  generalize mSend1_f Z3 w5 = w6 at S1 Q1 ⊢
  generalize mSend1_Z Z3 w5 = Z4 at S1 O1 ⊢
  obtain ⟨E1, V3, zs, c53⟩ := S1
  have pS1 : pE (s_X5_sendIfDue_X t U1) := pE_send pF1
  have y3 := y_send t U1 Y3 10 (by decide)
  have zc := z_send t U1 0 (by decide) (by decide)
  have zd := z_send t U1 2 (by decide) (by decide)
  generalize s_X5_sendIfDue_X t U1 = P1 at *
  generalize s_X5_sendIfDue_Y t U1 Y3 = R3 at *
  generalize s_X5_sendIfDue_z t U1 = t2 at *
  have E0 := rE0_fr E0 (fun k _ h => Q1 k (Or.inl h) (Or.inl (by omega)) (by omega))
  have V2 := rY2_fr V2 (fun k h => Q1 k (Or.inr (by omega)) (Or.inl (by omega)) (by omega))
  have m52 : w6 52 = t2 0 := (Q1 52 (Or.inr (by decide)) (Or.inr (by decide)) (by decide)).trans ((Q0 52 (by decide) (Or.inr (by decide)) (by decide)).trans (h52.trans (by rw [zc, za, z0, hc])))
  have m54 : w6 54 = t2 2 := (Q1 54 (Or.inr (by decide)) (Or.inr (by decide)) (by decide)).trans ((Q0 54 (by decide) (Or.inr (by decide)) (by decide)).trans ((hi 54 (by decide)).trans (by rw [zd, zb, z2, hu])))
  have k18 : Z4 18 = Z2 18 := (O1 18 (by decide)).trans (O0 18 (by decide))
  have k19 : Z4 19 = Z2 19 := (O1 19 (by decide)).trans (O0 19 (by decide))
  have f := mup_fr w6
  have e5 : w6 5 = P0 5 := E0.2.2.2.2.2.1
  have e21 : w6 21 = P1 5 := E1.2.2.2.2.2.1
  have fin : ∀ v : Nat → Int32, (v 0 = t2 0 ∧ v 1 = t2 1 ∧ v 3 = t2 3) → mUp w6 54 = v 2 → bW (kg P0 P1 R2 R3 v) → rT (kg P0 P1 R2 R3 v) Z4 (mUp w6) := by
    intro v hv h54 hbv
    refine ⟨rE0_fr E0 (fun k _ _ => f k (by omega)), rE16_fr E1 (fun k _ _ => f k (by omega)), rY2_fr V2 (fun k _ => f k (by omega)), rY3_fr V3 (fun k _ => f k (by omega)), ⟨?_, ?_, h54⟩, hbv, ⟨pS0, pS1⟩, ?_, ?_, ?_⟩
    · exact (f 52 (by decide)).trans (m52.trans hv.1.symm)
    · exact (f 53 (by decide)).trans (c53.trans hv.2.1.symm)
    · show (Z4 18 = 0 → R3 10 = Z4 19) ∧ (¬ Z4 18 = 0 → R3 10 = 0)
      rw [k18, k19, y3]; exact L0
    · show (Z4 18 = 1 → R2 10 = Z4 19) ∧ (¬ Z4 18 = 1 → R2 10 = 0)
      rw [k18, k19, y2]; exact M1
    · exact rS_fr zs hv.2.2 rfl rfl
  have up : ∀ a : Int32, a + 0 = a := fun a => Int32.add_zero a
  unfold mUp at fin
  unfold r_X5_areBothUp at hb9 ⊢
  by_cases u0 : P0 5 = 2
  · by_cases u1 : P1 5 = 2
    · have hq : ¬ (if P0 5 = 2 then (if P1 5 = 2 then (1 : Int32) else 0) else 0) = 0 := by rw [if_pos u0, if_pos u1]; decide
      rw [if_neg hq] at hb9 ⊢
      have := fin (upd t2 2 (t2 2 + 1)) ⟨rfl, rfl, rfl⟩ (by rw [if_pos (e5.trans u0), if_pos (e21.trans u1)]; show w6 54 + 1 = t2 2 + 1; rw [m54]) hb9
      exact this
    · have hq : (if P0 5 = 2 then (if P1 5 = 2 then (1 : Int32) else 0) else 0) = 0 := by rw [if_pos u0, if_neg u1]
      rw [if_pos hq] at hb9 ⊢
      exact fin t2 ⟨rfl, rfl, rfl⟩ (by rw [if_pos (e5.trans u0), if_neg (fun q => u1 (e21.symm.trans q))]; show w6 54 + 0 = t2 2; rw [up, m54]) hb9
  · have hq : (if P0 5 = 2 then (if P1 5 = 2 then (1 : Int32) else 0) else 0) = 0 := by rw [if_neg u0]
    rw [if_pos hq] at hb9 ⊢
    exact fin t2 ⟨rfl, rfl, rfl⟩ (by rw [if_neg (fun q => u0 (e5.symm.trans q))]; show w6 54 + 0 = t2 2; rw [up, m54]) hb9
