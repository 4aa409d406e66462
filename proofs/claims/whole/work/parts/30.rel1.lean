/-! a world of the class beside a row of the reference -/
def rE0 (X w : Nat → Int32) : Prop := w 0 = X 0 ∧ w 1 = X 1 ∧ w 2 = X 2 ∧ w 3 = X 3 ∧ w 4 = X 4 ∧ w 5 = X 5 ∧ w 6 = X 6 ∧ w 7 = X 7 ∧ w 8 = X 8 ∧ w 9 = X 9 ∧ w 10 = X 10 ∧ w 11 = X 11 ∧ w 12 = X 12 ∧ w 13 = X 13 ∧ w 14 = X 14 ∧ w 15 = X 15
def rE16 (X w : Nat → Int32) : Prop := w 16 = X 0 ∧ w 17 = X 1 ∧ w 18 = X 2 ∧ w 19 = X 3 ∧ w 20 = X 4 ∧ w 21 = X 5 ∧ w 22 = X 6 ∧ w 23 = X 7 ∧ w 24 = X 8 ∧ w 25 = X 9 ∧ w 26 = X 10 ∧ w 27 = X 11 ∧ w 28 = X 12 ∧ w 29 = X 13 ∧ w 30 = X 14 ∧ w 31 = X 15
def rY2 (Y w : Nat → Int32) : Prop := w 32 = Y 9 ∧ w 34 = Y 0 ∧ (Y 0 = 1 → w 35 = Y 1 ∧ w 36 = Y 2 ∧ w 37 = Y 3 ∧ w 38 = Y 4 ∧ w 39 = Y 5 ∧ w 40 = Y 6 ∧ w 41 = Y 7 ∧ w 42 = Y 8)
def rY3 (Y w : Nat → Int32) : Prop := w 33 = Y 9 ∧ w 43 = Y 0 ∧ (Y 0 = 1 → w 44 = Y 1 ∧ w 45 = Y 2 ∧ w 46 = Y 3 ∧ w 47 = Y 4 ∧ w 48 = Y 5 ∧ w 49 = Y 6 ∧ w 50 = Y 7 ∧ w 51 = Y 8)
theorem kq01 : ((0 : Int32) = 1) = False := eq_false (by decide)
theorem kq02 : ((0 : Int32) = 2) = False := eq_false (by decide)
theorem kq10 : ((1 : Int32) = 0) = False := eq_false (by decide)
theorem kq12 : ((1 : Int32) = 2) = False := eq_false (by decide)
theorem kq20 : ((2 : Int32) = 0) = False := eq_false (by decide)
theorem kq21 : ((2 : Int32) = 1) = False := eq_false (by decide)
/-- what an end is when it has heard a letter -/
def kHear (X T : Nat → Int32) : Nat → Int32 := if X 5 = 2 then (if T 1 = 0 then (if T 6 = 0 then (if T 7 = 0 then (upd (upd (upd (upd (upd (upd (upd (upd (upd (upd X 8 0) 11 (T 1)) 12 (T 2)) 13 (T 3)) 14 (T 4)) 15 (T 5)) 5 0) 6 0) 3 (X 0)) 4 (X 1)) else upd (upd (upd (upd (upd (upd (upd (upd (upd (upd X 8 0) 11 (T 1)) 12 (T 2)) 13 (T 3)) 14 (T 4)) 15 (T 5)) 5 0) 6 0) 3 (X 0)) 4 (X 1)) else if T 7 = 0 then (upd (upd (upd (upd (upd (upd (upd (upd (upd (upd (upd X 8 0) 11 (T 1)) 12 (T 2)) 13 (T 3)) 14 (T 4)) 15 (T 5)) 5 0) 6 0) 3 (X 0)) 4 (X 1)) 10 1) else upd (upd (upd (upd (upd (upd (upd (upd (upd (upd (upd X 8 0) 11 (T 1)) 12 (T 2)) 13 (T 3)) 14 (T 4)) 15 (T 5)) 5 0) 6 0) 3 (X 0)) 4 (X 1)) 10 1) else if T 6 = 0 then (if T 7 = 0 then (upd (upd (upd (upd (upd (upd (upd X 8 0) 11 (T 1)) 12 (T 2)) 13 (T 3)) 14 (T 4)) 15 (T 5)) 5 (r_X0_moodByWhatIsKnown (upd (upd (upd (upd (upd (upd X 8 0) 11 (T 1)) 12 (T 2)) 13 (T 3)) 14 (T 4)) 15 (T 5)))) else if X 6 = 0 then (upd (upd (upd (upd (upd (upd (upd X 8 0) 11 (T 1)) 12 (T 2)) 13 (T 3)) 14 (T 4)) 15 (T 5)) 5 (r_X0_moodByWhatIsKnown (upd (upd (upd (upd (upd (upd X 8 0) 11 (T 1)) 12 (T 2)) 13 (T 3)) 14 (T 4)) 15 (T 5)))) else upd (upd (upd (upd (upd (upd (upd (upd (upd (upd X 8 0) 11 (T 1)) 12 (T 2)) 13 (T 3)) 14 (T 4)) 15 (T 5)) 5 (r_X0_moodByWhatIsKnown (upd (upd (upd (upd (upd (upd X 8 0) 11 (T 1)) 12 (T 2)) 13 (T 3)) 14 (T 4)) 15 (T 5)))) 6 0) 3 (X 0)) 4 (X 1)) else if T 7 = 0 then (upd (upd (upd (upd (upd (upd (upd (upd X 8 0) 11 (T 1)) 12 (T 2)) 13 (T 3)) 14 (T 4)) 15 (T 5)) 5 (r_X0_moodByWhatIsKnown (upd (upd (upd (upd (upd (upd X 8 0) 11 (T 1)) 12 (T 2)) 13 (T 3)) 14 (T 4)) 15 (T 5)))) 10 1) else if X 6 = 0 then (upd (upd (upd (upd (upd (upd (upd (upd X 8 0) 11 (T 1)) 12 (T 2)) 13 (T 3)) 14 (T 4)) 15 (T 5)) 5 (r_X0_moodByWhatIsKnown (upd (upd (upd (upd (upd (upd X 8 0) 11 (T 1)) 12 (T 2)) 13 (T 3)) 14 (T 4)) 15 (T 5)))) 10 1) else upd (upd (upd (upd (upd (upd (upd (upd (upd (upd (upd X 8 0) 11 (T 1)) 12 (T 2)) 13 (T 3)) 14 (T 4)) 15 (T 5)) 5 (r_X0_moodByWhatIsKnown (upd (upd (upd (upd (upd (upd X 8 0) 11 (T 1)) 12 (T 2)) 13 (T 3)) 14 (T 4)) 15 (T 5)))) 10 1) 6 0) 3 (X 0)) 4 (X 1)) else if T 6 = 0 then (if T 7 = 0 then (upd (upd (upd (upd (upd (upd (upd X 8 0) 11 (T 1)) 12 (T 2)) 13 (T 3)) 14 (T 4)) 15 (T 5)) 5 (r_X0_moodByWhatIsKnown (upd (upd (upd (upd (upd (upd X 8 0) 11 (T 1)) 12 (T 2)) 13 (T 3)) 14 (T 4)) 15 (T 5)))) else if X 6 = 0 then (upd (upd (upd (upd (upd (upd (upd X 8 0) 11 (T 1)) 12 (T 2)) 13 (T 3)) 14 (T 4)) 15 (T 5)) 5 (r_X0_moodByWhatIsKnown (upd (upd (upd (upd (upd (upd X 8 0) 11 (T 1)) 12 (T 2)) 13 (T 3)) 14 (T 4)) 15 (T 5)))) else upd (upd (upd (upd (upd (upd (upd (upd (upd (upd X 8 0) 11 (T 1)) 12 (T 2)) 13 (T 3)) 14 (T 4)) 15 (T 5)) 5 (r_X0_moodByWhatIsKnown (upd (upd (upd (upd (upd (upd X 8 0) 11 (T 1)) 12 (T 2)) 13 (T 3)) 14 (T 4)) 15 (T 5)))) 6 0) 3 (X 0)) 4 (X 1)) else if T 7 = 0 then (upd (upd (upd (upd (upd (upd (upd (upd X 8 0) 11 (T 1)) 12 (T 2)) 13 (T 3)) 14 (T 4)) 15 (T 5)) 5 (r_X0_moodByWhatIsKnown (upd (upd (upd (upd (upd (upd X 8 0) 11 (T 1)) 12 (T 2)) 13 (T 3)) 14 (T 4)) 15 (T 5)))) 10 1) else if X 6 = 0 then (upd (upd (upd (upd (upd (upd (upd (upd X 8 0) 11 (T 1)) 12 (T 2)) 13 (T 3)) 14 (T 4)) 15 (T 5)) 5 (r_X0_moodByWhatIsKnown (upd (upd (upd (upd (upd (upd X 8 0) 11 (T 1)) 12 (T 2)) 13 (T 3)) 14 (T 4)) 15 (T 5)))) 10 1) else upd (upd (upd (upd (upd (upd (upd (upd (upd (upd (upd X 8 0) 11 (T 1)) 12 (T 2)) 13 (T 3)) 14 (T 4)) 15 (T 5)) 5 (r_X0_moodByWhatIsKnown (upd (upd (upd (upd (upd (upd X 8 0) 11 (T 1)) 12 (T 2)) 13 (T 3)) 14 (T 4)) 15 (T 5)))) 10 1) 6 0) 3 (X 0)) 4 (X 1)
theorem klisten (X Y : Nat → Int32) : s_X0_listen_X X Y = if r_X4_takeOff Y = 0 then upd X 8 (X 8 + 1) else kHear X (s_X4_takeOff_Y Y) := rfl
theorem rmood (X : Nat → Int32) (a b c d e : Int32) : r_X0_moodByWhatIsKnown (upd (upd (upd (upd (upd (upd X 8 0) 11 a) 12 b) 13 c) 14 d) 15 e) = if a = 0 then 1 else if a = 1 then 2 else if X 5 = 1 then 2 else X 5 := rfl
set_option maxHeartbeats 4000000 in
theorem rhear_0 {X T v : Nat → Int32} (hE : rE0 X v) (hl : v 44 = T 1 ∧ v 45 = T 2 ∧ v 46 = T 3 ∧ v 47 = T 4 ∧ v 48 = T 5 ∧ v 49 = T 6 ∧ v 50 = T 7) (b6 : kb (X 6)) (t6 : kb (T 6)) (t7 : kb (T 7)) : rE0 (kHear X T) (s_X7_hear_0_f v) := by
  obtain ⟨h0, h1, h2, h3, h4, h5, h6, h7, h8, h9, h10, h11, h12, h13, h14, h15⟩ := hE
  obtain ⟨l1, l2, l3, l4, l5, l6, l7⟩ := hl
  generalize hX : kHear X T = X'
  generalize hv : s_X7_hear_0_f v = v'
  unfold kHear at hX
  unfold s_X7_hear_0_f at hv
  simp only [rmood] at hX
  simp only [h0, h1, h2, h3, h4, h5, h6, h7, h8, h9, h10, h11, h12, h13, h14, h15, l1, l2, l3, l4, l5, l6, l7] at hv
  have close : ∀ X' v' : Nat → Int32, rE0 X' v' → X' = X' := fun _ _ _ => rfl
  rcases t6 with e6 | e6 <;> rcases t7 with e7 | e7 <;> rcases b6 with p6 | p6 <;> by_cases c2 : X 5 = 2 <;> by_cases c0 : T 1 = 0 <;> (try by_cases c1 : T 1 = 1) <;> (try by_cases c3 : X 5 = 1) <;> simp only [e6, e7, p6, c2, c0, c1, c3, kq01, kq02, kq10, kq12, kq20, kq21, eq_self, if_true, if_false] at hX hv <;> subst hX <;> subst hv <;> (refine ⟨?_, ?_, ?_, ?_, ?_, ?_, ?_, ?_, ?_, ?_, ?_, ?_, ?_, ?_, ?_, ?_⟩ <;> (first | rfl | exact h0 | exact h1 | exact h2 | exact h3 | exact h4 | exact h5 | exact h6 | exact h7 | exact h8 | exact h9 | exact h10 | exact h11 | exact h12 | exact h13 | exact h14 | exact h15))
set_option maxHeartbeats 4000000 in
theorem fhear_0 (v : Nat → Int32) (k : Nat) (hk : 16 ≤ k) : s_X7_hear_0_f v k = v k := by
  unfold s_X7_hear_0_f
  repeat' split
  all_goals (repeat rw [pk_un (by omega)])
set_option maxHeartbeats 4000000 in
theorem rhear_16 {X T v : Nat → Int32} (hE : rE16 X v) (hl : v 35 = T 1 ∧ v 36 = T 2 ∧ v 37 = T 3 ∧ v 38 = T 4 ∧ v 39 = T 5 ∧ v 40 = T 6 ∧ v 41 = T 7) (b6 : kb (X 6)) (t6 : kb (T 6)) (t7 : kb (T 7)) : rE16 (kHear X T) (s_X7_hear_16_f v) := by
  obtain ⟨h0, h1, h2, h3, h4, h5, h6, h7, h8, h9, h10, h11, h12, h13, h14, h15⟩ := hE
  obtain ⟨l1, l2, l3, l4, l5, l6, l7⟩ := hl
  generalize hX : kHear X T = X'
  generalize hv : s_X7_hear_16_f v = v'
  unfold kHear at hX
  unfold s_X7_hear_16_f at hv
  simp only [rmood] at hX
  simp only [h0, h1, h2, h3, h4, h5, h6, h7, h8, h9, h10, h11, h12, h13, h14, h15, l1, l2, l3, l4, l5, l6, l7] at hv
  have close : ∀ X' v' : Nat → Int32, rE16 X' v' → X' = X' := fun _ _ _ => rfl
  rcases t6 with e6 | e6 <;> rcases t7 with e7 | e7 <;> rcases b6 with p6 | p6 <;> by_cases c2 : X 5 = 2 <;> by_cases c0 : T 1 = 0 <;> (try by_cases c1 : T 1 = 1) <;> (try by_cases c3 : X 5 = 1) <;> simp only [e6, e7, p6, c2, c0, c1, c3, kq01, kq02, kq10, kq12, kq20, kq21, eq_self, if_true, if_false] at hX hv <;> subst hX <;> subst hv <;> (refine ⟨?_, ?_, ?_, ?_, ?_, ?_, ?_, ?_, ?_, ?_, ?_, ?_, ?_, ?_, ?_, ?_⟩ <;> (first | rfl | exact h0 | exact h1 | exact h2 | exact h3 | exact h4 | exact h5 | exact h6 | exact h7 | exact h8 | exact h9 | exact h10 | exact h11 | exact h12 | exact h13 | exact h14 | exact h15))
set_option maxHeartbeats 4000000 in
theorem fhear_16 (v : Nat → Int32) (k : Nat) (hk : k < 16 ∨ 32 ≤ k) : s_X7_hear_16_f v k = v k := by
  unfold s_X7_hear_16_f
  repeat' split
  all_goals (repeat rw [pk_un (by omega)])
