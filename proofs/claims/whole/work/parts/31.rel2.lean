set_option maxHeartbeats 4000000 in
theorem rtake_0 {X Y w Z : Nat → Int32} (hE : rE0 X w) (hY : rY3 Y w) (bX : bE X) (bY' : bY Y) (hL : (Z 18 = 0 → Y 10 = Z 19) ∧ (¬ Z 18 = 0 → Y 10 = 0)) :
    rE0 (s_X0_listen_X X Y) (s_X7_take_0_f Z w) ∧ rY3 (s_X4_takeOff_Y Y) (s_X7_take_0_f Z w) ∧ ((s_X7_take_0_Z Z w) 18 = 0 → (s_X4_takeOff_Y Y) 10 = (s_X7_take_0_Z Z w) 19) ∧ (¬ (s_X7_take_0_Z Z w) 18 = 0 → (s_X4_takeOff_Y Y) 10 = 0) := by
  obtain ⟨yo, yn, yl⟩ := hY
  obtain ⟨b0, b5, b6, b7, b8, b9⟩ := bY'
  obtain ⟨h0, h1, h2, h3, h4, h5, h6, h7, h8, h9, h10, h11, h12, h13, h14, h15⟩ := hE
  rcases b0 with e0 | e0
  · have q1 : ¬ w 43 = 1 := by rw [yn, e0]; decide
    have r1 : r_X4_takeOff Y = 0 := by unfold r_X4_takeOff; rw [if_pos e0]
    have r2 : s_X4_takeOff_Y Y = Y := by unfold s_X4_takeOff_Y; rw [if_pos e0]
    have r3 : s_X7_take_0_f Z w = upd w 8 (w 8 + 1) := by unfold s_X7_take_0_f; rw [if_neg q1]
    have r4 : s_X7_take_0_Z Z w = Z := by unfold s_X7_take_0_Z; rw [if_neg q1]
    rw [klisten, if_pos r1, r2, r3, r4]
    exact ⟨⟨h0, h1, h2, h3, h4, h5, h6, h7, (show _ + 1 = _ + 1 from by rw [h8]), h9, h10, h11, h12, h13, h14, h15⟩, ⟨yo, yn, fun q => absurd (e0.symm.trans q) (by decide)⟩, hL⟩
  · obtain ⟨l1, l2, l3, l4, l5, l6, l7, l8⟩ := yl e0
    have q1 : w 43 = 1 := by rw [yn, e0]
    have n0 : ¬ Y 0 = 0 := by rw [e0]; decide
    have vac : ∀ P : Prop, (0 : Int32) = 1 → P := fun P q => absurd q (by decide)
    rcases b9 with e9 | e9
    · have q2 : ¬ w 33 = 1 := by rw [yo, e9]; decide
      have r1 : r_X4_takeOff Y = 0 := by unfold r_X4_takeOff; rw [if_neg n0, if_pos e9]
      have r2 : s_X4_takeOff_Y Y = upd Y 0 0 := by unfold s_X4_takeOff_Y; rw [if_neg n0, if_pos e9]
      have r3 : s_X7_take_0_f Z w = upd (upd w 43 0) 8 (w 8 + 1) := by unfold s_X7_take_0_f; rw [if_pos q1, if_neg q2]
      have r4 : s_X7_take_0_Z Z w = Z := by unfold s_X7_take_0_Z; rw [if_pos q1, if_neg q2]
      rw [klisten, if_pos r1, r2, r3, r4]
      exact ⟨⟨h0, h1, h2, h3, h4, h5, h6, h7, (show _ + 1 = _ + 1 from by rw [h8]), h9, h10, h11, h12, h13, h14, h15⟩, ⟨yo, rfl, vac _⟩, hL⟩
    · have q2 : w 33 = 1 := by rw [yo, e9]
      have n9 : ¬ Y 9 = 0 := by rw [e9]; decide
      by_cases z8 : Z 18 = 0
      · have y10 := hL.1 z8
        by_cases z9 : Z 19 ≤ 0
        · have y11 : Y 10 ≤ 0 := by rw [y10]; exact z9
          rcases b8 with e8 | e8
          · have q3 : w 51 = 0 := by rw [l8, e8]
            have r1 : r_X4_takeOff Y = 1 := by unfold r_X4_takeOff; rw [if_neg n0, if_neg n9, if_pos y11, if_pos e8]
            have r2 : s_X4_takeOff_Y Y = upd Y 0 0 := by unfold s_X4_takeOff_Y; rw [if_neg n0, if_neg n9, if_pos y11, if_pos e8]
            have r3 : s_X7_take_0_f Z w = s_X7_hear_0_f (upd w 43 0) := by unfold s_X7_take_0_f; rw [if_pos q1, if_pos q2, if_pos q3, if_pos z8, if_pos z9]
            have r4 : s_X7_take_0_Z Z w = Z := by unfold s_X7_take_0_Z; rw [if_pos q1, if_pos q2, if_pos q3, if_pos z8, if_pos z9]
            rw [klisten, if_neg (by rw [r1]; decide), r2, r3, r4]
            exact ⟨rhear_0 (X := X) (T := upd Y 0 0) (v := upd w 43 0) ⟨h0, h1, h2, h3, h4, h5, h6, h7, h8, h9, h10, h11, h12, h13, h14, h15⟩ ⟨l1, l2, l3, l4, l5, l6, l7⟩ bX.1 b6 b7, ⟨(fhear_0 _ 33 (by omega)).trans yo, (fhear_0 _ 43 (by omega)).trans rfl, vac _⟩, hL⟩
          · have n8 : ¬ Y 8 = 0 := by rw [e8]; decide
            have q3 : ¬ w 51 = 0 := by rw [l8]; exact n8
            have r1 : r_X4_takeOff Y = 0 := by unfold r_X4_takeOff; rw [if_neg n0, if_neg n9, if_pos y11, if_neg n8]
            have r2 : s_X4_takeOff_Y Y = upd Y 0 0 := by unfold s_X4_takeOff_Y; rw [if_neg n0, if_neg n9, if_pos y11, if_neg n8]
            have r3 : s_X7_take_0_f Z w = upd (upd w 43 0) 8 (w 8 + 1) := by unfold s_X7_take_0_f; rw [if_pos q1, if_pos q2, if_neg q3, if_pos z8, if_pos z9]
            have r4 : s_X7_take_0_Z Z w = Z := by unfold s_X7_take_0_Z; rw [if_pos q1, if_pos q2, if_neg q3, if_pos z8, if_pos z9]
            rw [klisten, if_pos r1, r2, r3, r4]
            exact ⟨⟨h0, h1, h2, h3, h4, h5, h6, h7, (show _ + 1 = _ + 1 from by rw [h8]), h9, h10, h11, h12, h13, h14, h15⟩, ⟨yo, rfl, vac _⟩, hL⟩
        · have y11 : ¬ Y 10 ≤ 0 := by rw [y10]; exact z9
          have r1 : r_X4_takeOff Y = 0 := by unfold r_X4_takeOff; rw [if_neg n0, if_neg n9, if_neg y11]
          have r2 : s_X4_takeOff_Y Y = upd (upd Y 0 0) 10 (Y 10 - 1) := by unfold s_X4_takeOff_Y; rw [if_neg n0, if_neg n9, if_neg y11]
          have r3 : s_X7_take_0_f Z w = upd (upd w 43 0) 8 (w 8 + 1) := by
            unfold s_X7_take_0_f; rw [if_pos q1, if_pos q2]
            by_cases q3 : w 51 = 0
            · rw [if_pos q3, if_pos z8, if_neg z9]
            · rw [if_neg q3, if_pos z8, if_neg z9]
          have r4 : s_X7_take_0_Z Z w = upd Z 19 (Z 19 - 1) := by
            unfold s_X7_take_0_Z; rw [if_pos q1, if_pos q2]
            by_cases q3 : w 51 = 0
            · rw [if_pos q3, if_pos z8, if_neg z9]
            · rw [if_neg q3, if_pos z8, if_neg z9]
          rw [klisten, if_pos r1, r2, r3, r4]
          exact ⟨⟨h0, h1, h2, h3, h4, h5, h6, h7, (show _ + 1 = _ + 1 from by rw [h8]), h9, h10, h11, h12, h13, h14, h15⟩, ⟨yo, rfl, vac _⟩, fun _ => (show Y 10 - 1 = Z 19 - 1 from by rw [y10]), fun q => absurd z8 q⟩
      · have y11 : Y 10 ≤ 0 := by rw [hL.2 z8]; decide
        rcases b8 with e8 | e8
        · have q3 : w 51 = 0 := by rw [l8, e8]
          have r1 : r_X4_takeOff Y = 1 := by unfold r_X4_takeOff; rw [if_neg n0, if_neg n9, if_pos y11, if_pos e8]
          have r2 : s_X4_takeOff_Y Y = upd Y 0 0 := by unfold s_X4_takeOff_Y; rw [if_neg n0, if_neg n9, if_pos y11, if_pos e8]
          have r3 : s_X7_take_0_f Z w = s_X7_hear_0_f (upd w 43 0) := by unfold s_X7_take_0_f; rw [if_pos q1, if_pos q2, if_pos q3, if_neg z8]
          have r4 : s_X7_take_0_Z Z w = Z := by unfold s_X7_take_0_Z; rw [if_pos q1, if_pos q2, if_pos q3, if_neg z8]
          rw [klisten, if_neg (by rw [r1]; decide), r2, r3, r4]
          exact ⟨rhear_0 (X := X) (T := upd Y 0 0) (v := upd w 43 0) ⟨h0, h1, h2, h3, h4, h5, h6, h7, h8, h9, h10, h11, h12, h13, h14, h15⟩ ⟨l1, l2, l3, l4, l5, l6, l7⟩ bX.1 b6 b7, ⟨(fhear_0 _ 33 (by omega)).trans yo, (fhear_0 _ 43 (by omega)).trans rfl, vac _⟩, hL⟩
        · have n8 : ¬ Y 8 = 0 := by rw [e8]; decide
          have q3 : ¬ w 51 = 0 := by rw [l8]; exact n8
          have r1 : r_X4_takeOff Y = 0 := by unfold r_X4_takeOff; rw [if_neg n0, if_neg n9, if_pos y11, if_neg n8]
          have r2 : s_X4_takeOff_Y Y = upd Y 0 0 := by unfold s_X4_takeOff_Y; rw [if_neg n0, if_neg n9, if_pos y11, if_neg n8]
          have r3 : s_X7_take_0_f Z w = upd (upd w 43 0) 8 (w 8 + 1) := by unfold s_X7_take_0_f; rw [if_pos q1, if_pos q2, if_neg q3, if_neg z8]
          have r4 : s_X7_take_0_Z Z w = Z := by unfold s_X7_take_0_Z; rw [if_pos q1, if_pos q2, if_neg q3, if_neg z8]
          rw [klisten, if_pos r1, r2, r3, r4]
          exact ⟨⟨h0, h1, h2, h3, h4, h5, h6, h7, (show _ + 1 = _ + 1 from by rw [h8]), h9, h10, h11, h12, h13, h14, h15⟩, ⟨yo, rfl, vac _⟩, hL⟩
theorem ftake_0 (Z w : Nat → Int32) (k : Nat) (hk : 16 ≤ k) (hn : k ≠ 43) : s_X7_take_0_f Z w k = w k := by
  unfold s_X7_take_0_f
  repeat' split
  all_goals first | (rw [fhear_0 _ _ hk, pk_un hn]; done) | ((repeat rw [pk_un (by omega)]); done)
theorem ztake_0 (Z w : Nat → Int32) (k : Nat) (hn : k ≠ 19) : s_X7_take_0_Z Z w k = Z k := by
  unfold s_X7_take_0_Z
  repeat' split
  all_goals first | rfl | exact pk_un hn
set_option maxHeartbeats 4000000 in
theorem rtake_1 {X Y w Z : Nat → Int32} (hE : rE16 X w) (hY : rY2 Y w) (bX : bE X) (bY' : bY Y) (hL : (Z 18 = 1 → Y 10 = Z 19) ∧ (¬ Z 18 = 1 → Y 10 = 0)) :
    rE16 (s_X0_listen_X X Y) (s_X7_take_1_f Z w) ∧ rY2 (s_X4_takeOff_Y Y) (s_X7_take_1_f Z w) ∧ ((s_X7_take_1_Z Z w) 18 = 1 → (s_X4_takeOff_Y Y) 10 = (s_X7_take_1_Z Z w) 19) ∧ (¬ (s_X7_take_1_Z Z w) 18 = 1 → (s_X4_takeOff_Y Y) 10 = 0) := by
  obtain ⟨yo, yn, yl⟩ := hY
  obtain ⟨b0, b5, b6, b7, b8, b9⟩ := bY'
  obtain ⟨h0, h1, h2, h3, h4, h5, h6, h7, h8, h9, h10, h11, h12, h13, h14, h15⟩ := hE
  rcases b0 with e0 | e0
  · have q1 : ¬ w 34 = 1 := by rw [yn, e0]; decide
    have r1 : r_X4_takeOff Y = 0 := by unfold r_X4_takeOff; rw [if_pos e0]
    have r2 : s_X4_takeOff_Y Y = Y := by unfold s_X4_takeOff_Y; rw [if_pos e0]
    have r3 : s_X7_take_1_f Z w = upd w 24 (w 24 + 1) := by unfold s_X7_take_1_f; rw [if_neg q1]
    have r4 : s_X7_take_1_Z Z w = Z := by unfold s_X7_take_1_Z; rw [if_neg q1]
    rw [klisten, if_pos r1, r2, r3, r4]
    exact ⟨⟨h0, h1, h2, h3, h4, h5, h6, h7, (show _ + 1 = _ + 1 from by rw [h8]), h9, h10, h11, h12, h13, h14, h15⟩, ⟨yo, yn, fun q => absurd (e0.symm.trans q) (by decide)⟩, hL⟩
  · obtain ⟨l1, l2, l3, l4, l5, l6, l7, l8⟩ := yl e0
    have q1 : w 34 = 1 := by rw [yn, e0]
    have n0 : ¬ Y 0 = 0 := by rw [e0]; decide
    have vac : ∀ P : Prop, (0 : Int32) = 1 → P := fun P q => absurd q (by decide)
    rcases b9 with e9 | e9
    · have q2 : ¬ w 32 = 1 := by rw [yo, e9]; decide
      have r1 : r_X4_takeOff Y = 0 := by unfold r_X4_takeOff; rw [if_neg n0, if_pos e9]
      have r2 : s_X4_takeOff_Y Y = upd Y 0 0 := by unfold s_X4_takeOff_Y; rw [if_neg n0, if_pos e9]
      have r3 : s_X7_take_1_f Z w = upd (upd w 34 0) 24 (w 24 + 1) := by unfold s_X7_take_1_f; rw [if_pos q1, if_neg q2]
      have r4 : s_X7_take_1_Z Z w = Z := by unfold s_X7_take_1_Z; rw [if_pos q1, if_neg q2]
      rw [klisten, if_pos r1, r2, r3, r4]
      exact ⟨⟨h0, h1, h2, h3, h4, h5, h6, h7, (show _ + 1 = _ + 1 from by rw [h8]), h9, h10, h11, h12, h13, h14, h15⟩, ⟨yo, rfl, vac _⟩, hL⟩
    · have q2 : w 32 = 1 := by rw [yo, e9]
      have n9 : ¬ Y 9 = 0 := by rw [e9]; decide
      by_cases z8 : Z 18 = 1
      · have y10 := hL.1 z8
        by_cases z9 : Z 19 ≤ 0
        · have y11 : Y 10 ≤ 0 := by rw [y10]; exact z9
          rcases b8 with e8 | e8
          · have q3 : w 42 = 0 := by rw [l8, e8]
            have r1 : r_X4_takeOff Y = 1 := by unfold r_X4_takeOff; rw [if_neg n0, if_neg n9, if_pos y11, if_pos e8]
            have r2 : s_X4_takeOff_Y Y = upd Y 0 0 := by unfold s_X4_takeOff_Y; rw [if_neg n0, if_neg n9, if_pos y11, if_pos e8]
            have r3 : s_X7_take_1_f Z w = s_X7_hear_16_f (upd w 34 0) := by unfold s_X7_take_1_f; rw [if_pos q1, if_pos q2, if_pos q3, if_pos z8, if_pos z9]
            have r4 : s_X7_take_1_Z Z w = Z := by unfold s_X7_take_1_Z; rw [if_pos q1, if_pos q2, if_pos q3, if_pos z8, if_pos z9]
            rw [klisten, if_neg (by rw [r1]; decide), r2, r3, r4]
            exact ⟨rhear_16 (X := X) (T := upd Y 0 0) (v := upd w 34 0) ⟨h0, h1, h2, h3, h4, h5, h6, h7, h8, h9, h10, h11, h12, h13, h14, h15⟩ ⟨l1, l2, l3, l4, l5, l6, l7⟩ bX.1 b6 b7, ⟨(fhear_16 _ 32 (by omega)).trans yo, (fhear_16 _ 34 (by omega)).trans rfl, vac _⟩, hL⟩
          · have n8 : ¬ Y 8 = 0 := by rw [e8]; decide
            have q3 : ¬ w 42 = 0 := by rw [l8]; exact n8
            have r1 : r_X4_takeOff Y = 0 := by unfold r_X4_takeOff; rw [if_neg n0, if_neg n9, if_pos y11, if_neg n8]
            have r2 : s_X4_takeOff_Y Y = upd Y 0 0 := by unfold s_X4_takeOff_Y; rw [if_neg n0, if_neg n9, if_pos y11, if_neg n8]
            have r3 : s_X7_take_1_f Z w = upd (upd w 34 0) 24 (w 24 + 1) := by unfold s_X7_take_1_f; rw [if_pos q1, if_pos q2, if_neg q3, if_pos z8, if_pos z9]
            have r4 : s_X7_take_1_Z Z w = Z := by unfold s_X7_take_1_Z; rw [if_pos q1, if_pos q2, if_neg q3, if_pos z8, if_pos z9]
            rw [klisten, if_pos r1, r2, r3, r4]
            exact ⟨⟨h0, h1, h2, h3, h4, h5, h6, h7, (show _ + 1 = _ + 1 from by rw [h8]), h9, h10, h11, h12, h13, h14, h15⟩, ⟨yo, rfl, vac _⟩, hL⟩
        · have y11 : ¬ Y 10 ≤ 0 := by rw [y10]; exact z9
          have r1 : r_X4_takeOff Y = 0 := by unfold r_X4_takeOff; rw [if_neg n0, if_neg n9, if_neg y11]
          have r2 : s_X4_takeOff_Y Y = upd (upd Y 0 0) 10 (Y 10 - 1) := by unfold s_X4_takeOff_Y; rw [if_neg n0, if_neg n9, if_neg y11]
          have r3 : s_X7_take_1_f Z w = upd (upd w 34 0) 24 (w 24 + 1) := by
            unfold s_X7_take_1_f; rw [if_pos q1, if_pos q2]
            by_cases q3 : w 42 = 0
            · rw [if_pos q3, if_pos z8, if_neg z9]
            · rw [if_neg q3, if_pos z8, if_neg z9]
          have r4 : s_X7_take_1_Z Z w = upd Z 19 (Z 19 - 1) := by
            unfold s_X7_take_1_Z; rw [if_pos q1, if_pos q2]
            by_cases q3 : w 42 = 0
            · rw [if_pos q3, if_pos z8, if_neg z9]
            · rw [if_neg q3, if_pos z8, if_neg z9]
          rw [klisten, if_pos r1, r2, r3, r4]
          exact ⟨⟨h0, h1, h2, h3, h4, h5, h6, h7, (show _ + 1 = _ + 1 from by rw [h8]), h9, h10, h11, h12, h13, h14, h15⟩, ⟨yo, rfl, vac _⟩, fun _ => (show Y 10 - 1 = Z 19 - 1 from by rw [y10]), fun q => absurd z8 q⟩
      · have y11 : Y 10 ≤ 0 := by rw [hL.2 z8]; decide
        rcases b8 with e8 | e8
        · have q3 : w 42 = 0 := by rw [l8, e8]
          have r1 : r_X4_takeOff Y = 1 := by unfold r_X4_takeOff; rw [if_neg n0, if_neg n9, if_pos y11, if_pos e8]
          have r2 : s_X4_takeOff_Y Y = upd Y 0 0 := by unfold s_X4_takeOff_Y; rw [if_neg n0, if_neg n9, if_pos y11, if_pos e8]
          have r3 : s_X7_take_1_f Z w = s_X7_hear_16_f (upd w 34 0) := by unfold s_X7_take_1_f; rw [if_pos q1, if_pos q2, if_pos q3, if_neg z8]
          have r4 : s_X7_take_1_Z Z w = Z := by unfold s_X7_take_1_Z; rw [if_pos q1, if_pos q2, if_pos q3, if_neg z8]
          rw [klisten, if_neg (by rw [r1]; decide), r2, r3, r4]
          exact ⟨rhear_16 (X := X) (T := upd Y 0 0) (v := upd w 34 0) ⟨h0, h1, h2, h3, h4, h5, h6, h7, h8, h9, h10, h11, h12, h13, h14, h15⟩ ⟨l1, l2, l3, l4, l5, l6, l7⟩ bX.1 b6 b7, ⟨(fhear_16 _ 32 (by omega)).trans yo, (fhear_16 _ 34 (by omega)).trans rfl, vac _⟩, hL⟩
        · have n8 : ¬ Y 8 = 0 := by rw [e8]; decide
          have q3 : ¬ w 42 = 0 := by rw [l8]; exact n8
          have r1 : r_X4_takeOff Y = 0 := by unfold r_X4_takeOff; rw [if_neg n0, if_neg n9, if_pos y11, if_neg n8]
          have r2 : s_X4_takeOff_Y Y = upd Y 0 0 := by unfold s_X4_takeOff_Y; rw [if_neg n0, if_neg n9, if_pos y11, if_neg n8]
          have r3 : s_X7_take_1_f Z w = upd (upd w 34 0) 24 (w 24 + 1) := by unfold s_X7_take_1_f; rw [if_pos q1, if_pos q2, if_neg q3, if_neg z8]
          have r4 : s_X7_take_1_Z Z w = Z := by unfold s_X7_take_1_Z; rw [if_pos q1, if_pos q2, if_neg q3, if_neg z8]
          rw [klisten, if_pos r1, r2, r3, r4]
          exact ⟨⟨h0, h1, h2, h3, h4, h5, h6, h7, (show _ + 1 = _ + 1 from by rw [h8]), h9, h10, h11, h12, h13, h14, h15⟩, ⟨yo, rfl, vac _⟩, hL⟩
theorem ftake_1 (Z w : Nat → Int32) (k : Nat) (hk : (k < 16 ∨ 32 ≤ k)) (hn : k ≠ 34) : s_X7_take_1_f Z w k = w k := by
  unfold s_X7_take_1_f
  repeat' split
  all_goals first | (rw [fhear_16 _ _ hk, pk_un hn]; done) | ((repeat rw [pk_un (by omega)]); done)
theorem ztake_1 (Z w : Nat → Int32) (k : Nat) (hn : k ≠ 19) : s_X7_take_1_Z Z w k = Z k := by
  unfold s_X7_take_1_Z
  repeat' split
  all_goals first | rfl | exact pk_un hn
theorem kmax_eq (x y : Int32) : kMax x y = r_X7_max x y := by
  unfold kMax r_X7_max
  by_cases h : x < y
  · rw [if_pos h, if_pos (Int32.le_of_lt h)]
  · rw [if_neg h]
    by_cases h2 : x ≤ y
    · rw [if_pos h2]
      exact Int32.le_antisymm h2 (Int32.not_lt.mp h)
    · rw [if_neg h2]
theorem kmin_eq (x y : Int32) : kMin x y = r_X7_min x y := by
  unfold kMin r_X7_min
  by_cases h : y < x
  · rw [if_pos h, if_pos (Int32.le_of_lt h)]
  · rw [if_neg h]
    by_cases h2 : y ≤ x
    · rw [if_pos h2]
      exact Int32.le_antisymm (Int32.not_lt.mp h) h2
    · rw [if_neg h2]
theorem kmax_0 {x y : Int32} (h : 0 ≤ x) : r_X7_max (r_X7_max x y) 0 = r_X7_max x y := by
  have h1 : 0 ≤ r_X7_max x y := by
    unfold r_X7_max
    split
    · exact Int32.le_trans h (by assumption)
    · exact h
  generalize r_X7_max x y = m at h1
  unfold r_X7_max
  split
  · exact Int32.le_antisymm h1 (by assumption)
  · rfl
theorem rboth_0 {X w : Nat → Int32} (hE : rE0 X w) : r_X7_bothUp_0 w = r_X0_isBothUp X := by
  obtain ⟨h0, h1, h2, h3, h4, h5, h6, h7, h8, h9, h10, h11, h12, h13, h14, h15⟩ := hE
  unfold r_X7_bothUp_0 r_X0_isBothUp
  rw [h5, h11]
theorem rpace_0 {X w : Nat → Int32} (hE : rE0 X w) : r_X7_paceOn_0 w = r_X0_pace X := by
  obtain ⟨h0, h1, h2, h3, h4, h5, h6, h7, h8, h9, h10, h11, h12, h13, h14, h15⟩ := hE
  unfold r_X7_paceOn_0 r_X0_pace
  rw [h5, h3, h13, kmax_eq]
theorem rlimit_0 {X w : Nat → Int32} (hE : rE0 X w) (hp : 0 ≤ X 4) : r_X7_limitOn_0 w = r_X0_limit X := by
  have hb := rboth_0 hE
  obtain ⟨h0, h1, h2, h3, h4, h5, h6, h7, h8, h9, h10, h11, h12, h13, h14, h15⟩ := hE
  unfold r_X7_limitOn_0 r_X0_limit
  rw [hb, h14, h4, h12, kmax_eq, kmax_eq, kmax_0 hp]
theorem rtrusts_0 {X w : Nat → Int32} (hE : rE0 X w) (b7 : kb (X 7)) : r_X7_trusts_0 w = r_X0_trusts X := by
  have hb := rboth_0 hE
  obtain ⟨h0, h1, h2, h3, h4, h5, h6, h7, h8, h9, h10, h11, h12, h13, h14, h15⟩ := hE
  unfold r_X7_trusts_0 r_X0_trusts
  rw [hb, h7, h6]
  rcases b7 with e | e <;> simp only [e, kq01, kq02, kq10, kq12, kq20, kq21, eq_self, if_true, if_false]
theorem rstill_0 {X w : Nat → Int32} (hE : rE0 X w) (b15 : kb (X 15)) : r_X7_isStill_0 w = r_X0_isStill X := by
  have hb := rboth_0 hE
  obtain ⟨h0, h1, h2, h3, h4, h5, h6, h7, h8, h9, h10, h11, h12, h13, h14, h15⟩ := hE
  unfold r_X7_isStill_0 r_X0_isStill
  rw [hb, h15, h6]
  rcases b15 with e | e <;> simp only [e, kq01, kq02, kq10, kq12, kq20, kq21, eq_self, if_true, if_false]
theorem rboth_16 {X w : Nat → Int32} (hE : rE16 X w) : r_X7_bothUp_16 w = r_X0_isBothUp X := by
  obtain ⟨h0, h1, h2, h3, h4, h5, h6, h7, h8, h9, h10, h11, h12, h13, h14, h15⟩ := hE
  unfold r_X7_bothUp_16 r_X0_isBothUp
  rw [h5, h11]
theorem rpace_16 {X w : Nat → Int32} (hE : rE16 X w) : r_X7_paceOn_16 w = r_X0_pace X := by
  obtain ⟨h0, h1, h2, h3, h4, h5, h6, h7, h8, h9, h10, h11, h12, h13, h14, h15⟩ := hE
  unfold r_X7_paceOn_16 r_X0_pace
  rw [h5, h3, h13, kmax_eq]
theorem rlimit_16 {X w : Nat → Int32} (hE : rE16 X w) (hp : 0 ≤ X 4) : r_X7_limitOn_16 w = r_X0_limit X := by
  have hb := rboth_16 hE
  obtain ⟨h0, h1, h2, h3, h4, h5, h6, h7, h8, h9, h10, h11, h12, h13, h14, h15⟩ := hE
  unfold r_X7_limitOn_16 r_X0_limit
  rw [hb, h14, h4, h12, kmax_eq, kmax_eq, kmax_0 hp]
theorem rtrusts_16 {X w : Nat → Int32} (hE : rE16 X w) (b7 : kb (X 7)) : r_X7_trusts_16 w = r_X0_trusts X := by
  have hb := rboth_16 hE
  obtain ⟨h0, h1, h2, h3, h4, h5, h6, h7, h8, h9, h10, h11, h12, h13, h14, h15⟩ := hE
  unfold r_X7_trusts_16 r_X0_trusts
  rw [hb, h7, h6]
  rcases b7 with e | e <;> simp only [e, kq01, kq02, kq10, kq12, kq20, kq21, eq_self, if_true, if_false]
theorem rstill_16 {X w : Nat → Int32} (hE : rE16 X w) (b15 : kb (X 15)) : r_X7_isStill_16 w = r_X0_isStill X := by
  have hb := rboth_16 hE
  obtain ⟨h0, h1, h2, h3, h4, h5, h6, h7, h8, h9, h10, h11, h12, h13, h14, h15⟩ := hE
  unfold r_X7_isStill_16 r_X0_isStill
  rw [hb, h15, h6]
  rcases b15 with e | e <;> simp only [e, kq01, kq02, kq10, kq12, kq20, kq21, eq_self, if_true, if_false]
def mFall16 (F : Nat → Int32) : Nat → Int32 := if F 21 = 0 then F else if (r_X7_trusts_16 F) = 0 then (if F 24 < (r_X7_limitOn_16 F) then F else upd (upd (upd (upd (upd F 21 0) 22 0) 19 (F 16)) 20 (F 17)) 27 0) else F
theorem rfall_0 {X w : Nat → Int32} (hE : rE0 X w) (bX : bE X) (hp : 0 ≤ X 4) : rE0 (s_X0_fallIfSilent_X X) (t_X7_tick_1_f w) := by
  have ht := rtrusts_0 hE bX.2.1
  have hl := rlimit_0 hE hp
  have hE' := hE
  obtain ⟨h0, h1, h2, h3, h4, h5, h6, h7, h8, h9, h10, h11, h12, h13, h14, h15⟩ := hE
  unfold s_X0_fallIfSilent_X t_X7_tick_1_f
  rw [ht, hl]
  by_cases c1 : X 5 = 0
  · rw [if_pos c1, if_pos (h5.trans c1)]; exact hE'
  · rw [if_neg c1, if_neg (fun q => c1 (h5.symm.trans q))]
    by_cases c2 : r_X0_trusts X = 0
    · rw [if_pos c2, if_pos c2]
      by_cases c3 : X 8 < r_X0_limit X
      · rw [if_pos c3, if_pos (by rw [h8]; exact c3)]; exact hE'
      · rw [if_neg c3, if_neg (by rw [h8]; exact c3)]
        exact ⟨h0, h1, h2, h0, h1, rfl, rfl, h7, h8, h9, h10, rfl, h12, h13, h14, h15⟩
    · rw [if_neg c2, if_neg c2]; exact hE'
theorem ffall_0 (w : Nat → Int32) (k : Nat) (hk : 16 ≤ k) : t_X7_tick_1_f w k = w k := by
  unfold t_X7_tick_1_f
  repeat' split
  all_goals first | rfl | ((repeat rw [pk_un (by omega)]); done)
theorem rfall_16 {X w : Nat → Int32} (hE : rE16 X w) (bX : bE X) (hp : 0 ≤ X 4) : rE16 (s_X0_fallIfSilent_X X) (mFall16 w) := by
  have ht := rtrusts_16 hE bX.2.1
  have hl := rlimit_16 hE hp
  have hE' := hE
  obtain ⟨h0, h1, h2, h3, h4, h5, h6, h7, h8, h9, h10, h11, h12, h13, h14, h15⟩ := hE
  unfold s_X0_fallIfSilent_X mFall16
  rw [ht, hl]
  by_cases c1 : X 5 = 0
  · rw [if_pos c1, if_pos (h5.trans c1)]; exact hE'
  · rw [if_neg c1, if_neg (fun q => c1 (h5.symm.trans q))]
    by_cases c2 : r_X0_trusts X = 0
    · rw [if_pos c2, if_pos c2]
      by_cases c3 : X 8 < r_X0_limit X
      · rw [if_pos c3, if_pos (by rw [h8]; exact c3)]; exact hE'
      · rw [if_neg c3, if_neg (by rw [h8]; exact c3)]
        exact ⟨h0, h1, h2, h0, h1, rfl, rfl, h7, h8, h9, h10, rfl, h12, h13, h14, h15⟩
    · rw [if_neg c2, if_neg c2]; exact hE'
theorem ffall_16 (w : Nat → Int32) (k : Nat) (hk : (k < 16 ∨ 32 ≤ k)) : mFall16 w k = w k := by
  unfold mFall16
  repeat' split
  all_goals first | rfl | ((repeat rw [pk_un (by omega)]); done)
/-- the letters that are to be lost: as bits to come in the class, as a set and a count in the reference -/
def rS (z Z : Nat → Int32) : Prop := ∃ n k : Nat, n < 64 ∧ Z 20 = nI n ∧ ((6 ≤ Z 21 ∧ z 3 = 0) ∨ (k < 6 ∧ Z 21 = nI k ∧ z 3 = nI (n / 2 ^ k)))
theorem kbit : ∀ n : Fin 64, ∀ k : Fin 6, ((nI (n.val / 2 ^ k.val) &&& 1 = 0) ↔ r_X7_has (nI n.val) (nI k.val) = 0) ∧ kUshr (nI (n.val / 2 ^ k.val)) 1 = nI (n.val / 2 ^ (k.val + 1)) := by decide +kernel
def mPut0 (f : Nat → Int32) (b : Int32) : Nat → Int32 := upd (upd (upd (upd (upd (upd (upd (upd (upd (upd (upd (upd f 34 1) 35 (f 5)) 36 (f 0)) 37 (f 1)) 38 (f 2)) 39 (f 7)) 40 (f 6)) 41 (f 10)) 42 b) 10 0) 9 (r_X7_paceOn_0 (upd (upd (upd (upd (upd (upd (upd (upd (upd (upd f 34 1) 35 (f 5)) 36 (f 0)) 37 (f 1)) 38 (f 2)) 39 (f 7)) 40 (f 6)) 41 (f 10)) 42 b) 10 0))) 53 ((f 53) + 1)
def mPut1 (f : Nat → Int32) (b : Int32) : Nat → Int32 := upd (upd (upd (upd (upd (upd (upd (upd (upd (upd (upd (upd f 43 1) 44 (f 21)) 45 (f 16)) 46 (f 17)) 47 (f 18)) 48 (f 23)) 49 (f 22)) 50 (f 26)) 51 b) 26 0) 25 (r_X7_paceOn_16 (upd (upd (upd (upd (upd (upd (upd (upd (upd (upd f 43 1) 44 (f 21)) 45 (f 16)) 46 (f 17)) 47 (f 18)) 48 (f 23)) 49 (f 22)) 50 (f 26)) 51 b) 26 0))) 53 ((f 53) + 1)
theorem rlost {z Z : Nat → Int32} (hz : rS z Z) (v : Int32) : ∃ b : Int32, (b = 0 ∧ z 3 &&& 1 = 0 ∨ b = 1 ∧ ¬ z 3 &&& 1 = 0) ∧ (∀ f, s_X7_sendOn_0_f Z f = mPut0 f b) ∧ (∀ f, s_X7_sendOn_1_f Z f = mPut1 f b) ∧ rS (upd (upd z 3 (kUshr (z 3) 1)) 1 v) (s_X7_sendOn_0_Z Z) := by
  obtain ⟨n, k, hn, h20, h⟩ := hz
  rcases h with ⟨h6, h3⟩ | ⟨hk, h21, h3⟩
  · refine ⟨0, Or.inl ⟨rfl, by rw [h3]; decide⟩, fun f => ?_, fun f => ?_, ?_⟩
    · unfold s_X7_sendOn_0_f; rw [if_pos h6]; rfl
    · unfold s_X7_sendOn_1_f; rw [if_pos h6]; rfl
    · unfold s_X7_sendOn_0_Z; rw [if_pos h6]
      exact ⟨n, 0, hn, h20, Or.inl ⟨(show (6 : Int32) ≤ 6 by decide), (show kUshr (z 3) 1 = 0 from by rw [h3]; decide)⟩⟩
  · have h6 : ¬ 6 ≤ Z 21 := by
      rw [h21]; intro q
      have := (nI_leI (a := 6) (b := k) (by decide) (by omega)).mp q
      omega
    obtain ⟨a1, a2⟩ := kbit ⟨n, hn⟩ ⟨k, hk⟩
    have hs : rS (upd (upd z 3 (kUshr (z 3) 1)) 1 v) (upd Z 21 (Z 21 + 1)) := by
      refine ⟨n, k + 1, hn, h20, ?_⟩
      have e3 : kUshr (z 3) 1 = nI (n / 2 ^ (k + 1)) := by rw [h3]; exact a2
      have e21 : Z 21 + 1 = nI (k + 1) := by rw [h21]; exact nI_1 k
      by_cases hk5 : k < 5
      · exact Or.inr ⟨by omega, e21, e3⟩
      · have : k = 5 := by omega
        subst this
        refine Or.inl ⟨(show (6 : Int32) ≤ Z 21 + 1 from by rw [e21]; decide), ?_⟩
        show kUshr (z 3) 1 = 0
        rw [e3, Nat.div_eq_of_lt (by omega)]; rfl
    by_cases hb : z 3 &&& 1 = 0
    · have h9 : r_X7_has (Z 20) (Z 21) = 0 := by rw [h20, h21]; exact a1.mp (by rw [← h3]; exact hb)
      refine ⟨0, Or.inl ⟨rfl, hb⟩, fun f => ?_, fun f => ?_, ?_⟩
      · unfold s_X7_sendOn_0_f; rw [if_neg h6, if_pos h9]; rfl
      · unfold s_X7_sendOn_1_f; rw [if_neg h6, if_pos h9]; rfl
      · unfold s_X7_sendOn_0_Z; rw [if_neg h6, if_pos h9]; exact hs
    · have h9 : ¬ r_X7_has (Z 20) (Z 21) = 0 := by rw [h20, h21]; exact fun q => hb (by rw [h3]; exact a1.mpr q)
      refine ⟨1, Or.inr ⟨rfl, hb⟩, fun f => ?_, fun f => ?_, ?_⟩
      · unfold s_X7_sendOn_0_f; rw [if_neg h6, if_neg h9]; rfl
      · unfold s_X7_sendOn_1_f; rw [if_neg h6, if_neg h9]; rfl
      · unfold s_X7_sendOn_0_Z; rw [if_neg h6, if_neg h9]; exact hs
def mSend1_f (B A : Nat → Int32) : Nat → Int32 := if A 26 = 1 then (s_X7_sendOn_1_f B (upd A 25 (r_X7_max ((A 25) - 1) 0))) else if (r_X7_max ((A 25) - 1) 0) = 0 then (if (r_X7_isStill_16 (upd A 25 (r_X7_max ((A 25) - 1) 0))) = 0 then (s_X7_sendOn_1_f B (upd A 25 (r_X7_max ((A 25) - 1) 0))) else upd A 25 (r_X7_max ((A 25) - 1) 0)) else upd A 25 (r_X7_max ((A 25) - 1) 0)
def mSend1_Z (B A : Nat → Int32) : Nat → Int32 := if A 26 = 1 then (s_X7_sendOn_1_Z B) else if (r_X7_max ((A 25) - 1) 0) = 0 then (if (r_X7_isStill_16 (upd A 25 (r_X7_max ((A 25) - 1) 0))) = 0 then (s_X7_sendOn_1_Z B) else B) else B
/-- what is put on a way, a letter being lost or not -/
def kPut (X Y : Nat → Int32) (b : Int32) : Nat → Int32 := upd (upd (upd (upd (upd (upd (upd (upd (upd Y 0 1) 6 (X 6)) 7 (X 10)) 8 b) 1 (X 5)) 2 (X 0)) 3 (X 1)) 4 (X 2)) 5 (X 7)
/-- is a letter due? -/
def kDue (X : Nat → Int32) : Prop := ¬ X 10 = 0 ∨ (kMax ((X 9) - 1) 0 = 0 ∧ r_X0_isStill (upd X 9 (kMax ((X 9) - 1) 0)) = 0)
theorem kdue_yes {z X Y : Nat → Int32} {b : Int32} (h : kDue X) (hb : b = 0 ∧ z 3 &&& 1 = 0 ∨ b = 1 ∧ ¬ z 3 &&& 1 = 0) : s_X5_sendIfDue_X z X = upd (upd (upd X 9 (kMax ((X 9) - 1) 0)) 10 0) 9 (r_X0_pace (upd (upd X 9 (kMax ((X 9) - 1) 0)) 10 0)) ∧ s_X5_sendIfDue_Y z X Y = kPut X Y b ∧ s_X5_sendIfDue_z z X = upd (upd z 3 (kUshr (z 3) 1)) 1 ((z 1) + 1) := by
  unfold s_X5_sendIfDue_X s_X5_sendIfDue_Y s_X5_sendIfDue_z kPut
  rcases h with h | ⟨h1, h2⟩
  · rw [if_neg h, if_neg h, if_neg h]
    rcases hb with ⟨rfl, hb⟩ | ⟨rfl, hb⟩
    · rw [if_pos hb, if_pos hb, if_pos hb]; exact ⟨rfl, rfl, rfl⟩
    · rw [if_neg hb, if_neg hb, if_neg hb]; exact ⟨rfl, rfl, rfl⟩
  · by_cases h : X 10 = 0
    · rw [if_pos h, if_pos h, if_pos h, if_pos h1, if_pos h1, if_pos h1, if_pos h2, if_pos h2, if_pos h2]
      rcases hb with ⟨rfl, hb⟩ | ⟨rfl, hb⟩
      · rw [if_pos hb, if_pos hb, if_pos hb]; exact ⟨rfl, rfl, rfl⟩
      · rw [if_neg hb, if_neg hb, if_neg hb]; exact ⟨rfl, rfl, rfl⟩
    · rw [if_neg h, if_neg h, if_neg h]
      rcases hb with ⟨rfl, hb⟩ | ⟨rfl, hb⟩
      · rw [if_pos hb, if_pos hb, if_pos hb]; exact ⟨rfl, rfl, rfl⟩
      · rw [if_neg hb, if_neg hb, if_neg hb]; exact ⟨rfl, rfl, rfl⟩
theorem kdue_no {z X Y : Nat → Int32} (h : ¬ kDue X) : s_X5_sendIfDue_X z X = upd X 9 (kMax ((X 9) - 1) 0) ∧ s_X5_sendIfDue_Y z X Y = Y ∧ s_X5_sendIfDue_z z X = z := by
  unfold s_X5_sendIfDue_X s_X5_sendIfDue_Y s_X5_sendIfDue_z
  have h0 : X 10 = 0 := Decidable.byContradiction (fun q => h (Or.inl q))
  rw [if_pos h0, if_pos h0, if_pos h0]
  by_cases h1 : kMax ((X 9) - 1) 0 = 0
  · have h2 : ¬ r_X0_isStill (upd X 9 (kMax ((X 9) - 1) 0)) = 0 := fun q => h (Or.inr ⟨h1, q⟩)
    rw [if_pos h1, if_pos h1, if_pos h1, if_neg h2, if_neg h2, if_neg h2]; exact ⟨rfl, rfl, rfl⟩
  · rw [if_neg h1, if_neg h1, if_neg h1]; exact ⟨rfl, rfl, rfl⟩
theorem rsend_0 {X Y z w Z : Nat → Int32} (hE : rE0 X w) (hY : rY2 Y w) (hz : rS z Z) (bX : bE X) (hc : w 53 = z 1) : rE0 (s_X5_sendIfDue_X z X) (t_X7_tick_2_f Z w) ∧ rY2 (s_X5_sendIfDue_Y z X Y) (t_X7_tick_2_f Z w) ∧ rS (s_X5_sendIfDue_z z X) (t_X7_tick_2_Z Z w) ∧ (t_X7_tick_2_f Z w) 53 = (s_X5_sendIfDue_z z X) 1 := by
  have hp := rpace_0 hE
  obtain ⟨h0, h1, h2, h3, h4, h5, h6, h7, h8, h9, h10, h11, h12, h13, h14, h15⟩ := hE
  obtain ⟨yo, yn, yl⟩ := hY
  have hm : r_X7_max (w 9 - 1) 0 = kMax (X 9 - 1) 0 := by rw [h9, kmax_eq]
  have hst : r_X7_isStill_0 (upd w 9 (kMax (X 9 - 1) 0)) = r_X0_isStill (upd X 9 (kMax (X 9 - 1) 0)) := rstill_0 (X := upd X 9 (kMax (X 9 - 1) 0)) (w := upd w 9 (kMax (X 9 - 1) 0)) ⟨h0, h1, h2, h3, h4, h5, h6, h7, h8, rfl, h10, h11, h12, h13, h14, h15⟩ bX.2.2.2
  by_cases hd : kDue X
  · obtain ⟨bt, hb, e0, e1, es⟩ := rlost hz (z 1 + 1)
    obtain ⟨d1, d2, d3⟩ := kdue_yes (Y := Y) hd hb
    have f1 : t_X7_tick_2_f Z w = mPut0 (upd w 9 (kMax (X 9 - 1) 0)) bt := by
      unfold t_X7_tick_2_f
      rw [hm, hst]
      rcases bX.2.2.1 with x | x
      · have hd2 := hd.resolve_left (fun q => q x)
        rw [if_neg (by rw [h10, x]; decide), if_pos hd2.1, if_pos hd2.2, e0]
      · rw [if_pos (h10.trans x), e0]
    have f2 : t_X7_tick_2_Z Z w = s_X7_sendOn_0_Z Z := by
      unfold t_X7_tick_2_Z
      rw [hm, hst]
      rcases bX.2.2.1 with x | x
      · have hd2 := hd.resolve_left (fun q => q x)
        rw [if_neg (by rw [h10, x]; decide), if_pos hd2.1, if_pos hd2.2]
      · rw [if_pos (h10.trans x)]
    rw [d1, d2, d3, f1, f2]
    refine ⟨⟨h0, h1, h2, h3, h4, h5, h6, h7, h8, hp, rfl, h11, h12, h13, h14, h15⟩, ⟨yo, rfl, fun _ => ⟨h5, h0, h1, h2, h7, h6, h10, rfl⟩⟩, es, ?_⟩
    show w 53 + 1 = z 1 + 1
    rw [hc]
  · obtain ⟨d1, d2, d3⟩ := kdue_no (z := z) (Y := Y) hd
    have x : ¬ w 10 = 1 := fun q => hd (Or.inl (by rw [← h10, q]; decide))
    have f1 : t_X7_tick_2_f Z w = upd w 9 (kMax (X 9 - 1) 0) := by
      unfold t_X7_tick_2_f
      rw [hm, hst, if_neg x]
      by_cases c1 : kMax (X 9 - 1) 0 = 0
      · rw [if_pos c1, if_neg (fun q => hd (Or.inr ⟨c1, q⟩))]
      · rw [if_neg c1]
    have f2 : t_X7_tick_2_Z Z w = Z := by
      unfold t_X7_tick_2_Z
      rw [hm, hst, if_neg x]
      by_cases c1 : kMax (X 9 - 1) 0 = 0
      · rw [if_pos c1, if_neg (fun q => hd (Or.inr ⟨c1, q⟩))]
      · rw [if_neg c1]
    rw [d1, d2, d3, f1, f2]
    exact ⟨⟨h0, h1, h2, h3, h4, h5, h6, h7, h8, rfl, h10, h11, h12, h13, h14, h15⟩, ⟨yo, yn, yl⟩, hz, hc⟩
theorem fsend_0 (Z w : Nat → Int32) (k : Nat) (hk : 16 ≤ k) (hn : k < 34 ∨ 43 ≤ k) (h53 : k ≠ 53) : t_X7_tick_2_f Z w k = w k := by
  unfold t_X7_tick_2_f s_X7_sendOn_0_f
  repeat' split
  all_goals ((repeat rw [pk_un (by omega)]); done)
theorem zsend_0 (Z w : Nat → Int32) (k : Nat) (hn : k ≠ 21) : t_X7_tick_2_Z Z w k = Z k := by
  unfold t_X7_tick_2_Z s_X7_sendOn_0_Z
  repeat' split
  all_goals first | rfl | exact pk_un hn
theorem rsend_1 {X Y z w Z : Nat → Int32} (hE : rE16 X w) (hY : rY3 Y w) (hz : rS z Z) (bX : bE X) (hc : w 53 = z 1) : rE16 (s_X5_sendIfDue_X z X) (mSend1_f Z w) ∧ rY3 (s_X5_sendIfDue_Y z X Y) (mSend1_f Z w) ∧ rS (s_X5_sendIfDue_z z X) (mSend1_Z Z w) ∧ (mSend1_f Z w) 53 = (s_X5_sendIfDue_z z X) 1 := by
  have hp := rpace_16 hE
  obtain ⟨h0, h1, h2, h3, h4, h5, h6, h7, h8, h9, h10, h11, h12, h13, h14, h15⟩ := hE
  obtain ⟨yo, yn, yl⟩ := hY
  have hm : r_X7_max (w 25 - 1) 0 = kMax (X 9 - 1) 0 := by rw [h9, kmax_eq]
  have hst : r_X7_isStill_16 (upd w 25 (kMax (X 9 - 1) 0)) = r_X0_isStill (upd X 9 (kMax (X 9 - 1) 0)) := rstill_16 (X := upd X 9 (kMax (X 9 - 1) 0)) (w := upd w 25 (kMax (X 9 - 1) 0)) ⟨h0, h1, h2, h3, h4, h5, h6, h7, h8, rfl, h10, h11, h12, h13, h14, h15⟩ bX.2.2.2
  by_cases hd : kDue X
  · obtain ⟨bt, hb, e0, e1, es⟩ := rlost hz (z 1 + 1)
    obtain ⟨d1, d2, d3⟩ := kdue_yes (Y := Y) hd hb
    have f1 : mSend1_f Z w = mPut1 (upd w 25 (kMax (X 9 - 1) 0)) bt := by
      unfold mSend1_f
      rw [hm, hst]
      rcases bX.2.2.1 with x | x
      · have hd2 := hd.resolve_left (fun q => q x)
        rw [if_neg (by rw [h10, x]; decide), if_pos hd2.1, if_pos hd2.2, e1]
      · rw [if_pos (h10.trans x), e1]
    have f2 : mSend1_Z Z w = s_X7_sendOn_0_Z Z := by
      unfold mSend1_Z
      rw [hm, hst]
      rcases bX.2.2.1 with x | x
      · have hd2 := hd.resolve_left (fun q => q x)
        rw [if_neg (by rw [h10, x]; decide), if_pos hd2.1, if_pos hd2.2]; rfl
      · rw [if_pos (h10.trans x)]; rfl
    rw [d1, d2, d3, f1, f2]
    refine ⟨⟨h0, h1, h2, h3, h4, h5, h6, h7, h8, hp, rfl, h11, h12, h13, h14, h15⟩, ⟨yo, rfl, fun _ => ⟨h5, h0, h1, h2, h7, h6, h10, rfl⟩⟩, es, ?_⟩
    show w 53 + 1 = z 1 + 1
    rw [hc]
  · obtain ⟨d1, d2, d3⟩ := kdue_no (z := z) (Y := Y) hd
    have x : ¬ w 26 = 1 := fun q => hd (Or.inl (by rw [← h10, q]; decide))
    have f1 : mSend1_f Z w = upd w 25 (kMax (X 9 - 1) 0) := by
      unfold mSend1_f
      rw [hm, hst, if_neg x]
      by_cases c1 : kMax (X 9 - 1) 0 = 0
      · rw [if_pos c1, if_neg (fun q => hd (Or.inr ⟨c1, q⟩))]
      · rw [if_neg c1]
    have f2 : mSend1_Z Z w = Z := by
      unfold mSend1_Z
      rw [hm, hst, if_neg x]
      by_cases c1 : kMax (X 9 - 1) 0 = 0
      · rw [if_pos c1, if_neg (fun q => hd (Or.inr ⟨c1, q⟩))]
      · rw [if_neg c1]
    rw [d1, d2, d3, f1, f2]
    exact ⟨⟨h0, h1, h2, h3, h4, h5, h6, h7, h8, rfl, h10, h11, h12, h13, h14, h15⟩, ⟨yo, yn, yl⟩, hz, hc⟩
theorem fsend_1 (Z w : Nat → Int32) (k : Nat) (hk : (k < 16 ∨ 32 ≤ k)) (hn : k < 43 ∨ 52 ≤ k) (h53 : k ≠ 53) : mSend1_f Z w k = w k := by
  unfold mSend1_f s_X7_sendOn_1_f
  repeat' split
  all_goals ((repeat rw [pk_un (by omega)]); done)
theorem zsend_1 (Z w : Nat → Int32) (k : Nat) (hn : k ≠ 21) : mSend1_Z Z w k = Z k := by
  unfold mSend1_Z s_X7_sendOn_1_Z
  repeat' split
  all_goals first | rfl | exact pk_un hn
