theorem k01e {x r : Int32} (h : r_X7_noEnd x = r) (c : r = 0) (h0 : ¬ x = 0) : x = 1 := by
  rw [← h] at c
  unfold r_X7_noEnd at c
  rw [kin_iff] at c
  split at c
  · rename_i hh
    obtain ⟨a, b⟩ := hh
    have a1 := Int64.le_iff_toInt_le.mp a
    have b1 := Int64.le_iff_toInt_le.mp b
    rw [Int32.toInt_toInt64] at a1 b1
    simp at a1 b1
    refine Int32.toInt_inj.mp ?_
    have : ¬ x.toInt = 0 := fun z => h0 (Int32.toInt_inj.mp (by rw [z]; rfl))
    show x.toInt = 1
    omega
  · exact absurd c (by decide)

def r_X7_does (tr : Nat → Int32) (p0 : Int32) (p1 : Int32) (p2 : Int32) : Int32 := if (r_X7_noEnd p1) = 0 then (if p1 = 0 then (if (r_X7_noEnd p2) = 0 then (if p0 = 1 then (if (r_X7_in (((10 * p1) + p2).toInt64) 1 30) = 0 then 0 else 1) else if p0 = 2 then (if p2 = 0 then 1 else 1) else if p0 = 3 then (if p2 = 0 then 1 else 1) else if p0 = 4 then (if p2 = 0 then (if (r_X7_mayPoll_0 tr) = 0 then 0 else 1) else if (r_X7_mayPoll_16 tr) = 0 then 0 else 1) else if p0 = 5 then (if tr 5 = p2 then 1 else 0) else if p0 = 6 then (if tr 6 = p2 then 1 else 0) else if p0 = 7 then (if (r_X7_paceOn_0 tr) = p2 then 1 else 0) else 0) else if p0 = 1 then (if (r_X7_in (((10 * p1) + p2).toInt64) 1 30) = 0 then 0 else 1) else if p0 = 2 then 0 else if p0 = 3 then 0 else if p0 = 4 then 0 else if p0 = 5 then (if tr 5 = p2 then 1 else 0) else if p0 = 6 then (if tr 6 = p2 then 1 else 0) else if p0 = 7 then (if (r_X7_paceOn_0 tr) = p2 then 1 else 0) else 0) else if p0 = 1 then (if (r_X7_in (((10 * p1) + p2).toInt64) 1 30) = 0 then 0 else 1) else if p0 = 2 then 0 else if p0 = 3 then 0 else if p0 = 4 then 0 else if p0 = 5 then (if tr 21 = p2 then 1 else 0) else if p0 = 6 then (if tr 22 = p2 then 1 else 0) else if p0 = 7 then (if (r_X7_paceOn_16 tr) = p2 then 1 else 0) else 0) else if p1 = 0 then (if (r_X7_noEnd p2) = 0 then (if p0 = 1 then (if (r_X7_in (((10 * p1) + p2).toInt64) 1 30) = 0 then 0 else 1) else if p0 = 2 then (if p2 = 0 then 1 else 1) else if p0 = 3 then (if p2 = 0 then 1 else 1) else if p0 = 4 then (if p2 = 0 then (if (r_X7_mayPoll_0 tr) = 0 then 0 else 1) else if (r_X7_mayPoll_16 tr) = 0 then 0 else 1) else if p0 = 5 then 0 else if p0 = 6 then 0 else if p0 = 7 then 0 else 0) else if p0 = 1 then (if (r_X7_in (((10 * p1) + p2).toInt64) 1 30) = 0 then 0 else 1) else if p0 = 2 then 0 else if p0 = 3 then 0 else if p0 = 4 then 0 else if p0 = 5 then 0 else if p0 = 6 then 0 else if p0 = 7 then 0 else 0) else if p0 = 1 then (if (r_X7_in (((10 * p1) + p2).toInt64) 1 30) = 0 then 0 else 1) else if p0 = 2 then 0 else if p0 = 3 then 0 else if p0 = 4 then 0 else if p0 = 5 then 0 else if p0 = 6 then 0 else if p0 = 7 then 0 else 0
def s_X7_does_Z (Z : Nat → Int32) (tr : Nat → Int32) (p0 : Int32) (p1 : Int32) (p2 : Int32) : Nat → Int32 := if (r_X7_noEnd p1) = 0 then (if p1 = 0 then (if (r_X7_noEnd p2) = 0 then (if p0 = 1 then (if (r_X7_in (((10 * p1) + p2).toInt64) 1 30) = 0 then Z else s_X7_goFor_Z Z tr ((10 * p1) + p2)) else if p0 = 2 then (if p2 = 0 then Z else Z) else if p0 = 3 then (if p2 = 0 then Z else Z) else if p0 = 4 then (if p2 = 0 then (if (r_X7_mayPoll_0 tr) = 0 then Z else Z) else if (r_X7_mayPoll_16 tr) = 0 then Z else Z) else if p0 = 5 then (if tr 5 = p2 then Z else Z) else if p0 = 6 then (if tr 6 = p2 then Z else Z) else if p0 = 7 then (if (r_X7_paceOn_0 tr) = p2 then Z else Z) else Z) else if p0 = 1 then (if (r_X7_in (((10 * p1) + p2).toInt64) 1 30) = 0 then Z else s_X7_goFor_Z Z tr ((10 * p1) + p2)) else if p0 = 2 then Z else if p0 = 3 then Z else if p0 = 4 then Z else if p0 = 5 then (if tr 5 = p2 then Z else Z) else if p0 = 6 then (if tr 6 = p2 then Z else Z) else if p0 = 7 then (if (r_X7_paceOn_0 tr) = p2 then Z else Z) else Z) else if p0 = 1 then (if (r_X7_in (((10 * p1) + p2).toInt64) 1 30) = 0 then Z else s_X7_goFor_Z Z tr ((10 * p1) + p2)) else if p0 = 2 then Z else if p0 = 3 then Z else if p0 = 4 then Z else if p0 = 5 then (if tr 21 = p2 then Z else Z) else if p0 = 6 then (if tr 22 = p2 then Z else Z) else if p0 = 7 then (if (r_X7_paceOn_16 tr) = p2 then Z else Z) else Z) else if p1 = 0 then (if (r_X7_noEnd p2) = 0 then (if p0 = 1 then (if (r_X7_in (((10 * p1) + p2).toInt64) 1 30) = 0 then Z else s_X7_goFor_Z Z tr ((10 * p1) + p2)) else if p0 = 2 then (if p2 = 0 then Z else Z) else if p0 = 3 then (if p2 = 0 then Z else Z) else if p0 = 4 then (if p2 = 0 then (if (r_X7_mayPoll_0 tr) = 0 then Z else Z) else if (r_X7_mayPoll_16 tr) = 0 then Z else Z) else if p0 = 5 then Z else if p0 = 6 then Z else if p0 = 7 then Z else Z) else if p0 = 1 then (if (r_X7_in (((10 * p1) + p2).toInt64) 1 30) = 0 then Z else s_X7_goFor_Z Z tr ((10 * p1) + p2)) else if p0 = 2 then Z else if p0 = 3 then Z else if p0 = 4 then Z else if p0 = 5 then Z else if p0 = 6 then Z else if p0 = 7 then Z else Z) else if p0 = 1 then (if (r_X7_in (((10 * p1) + p2).toInt64) 1 30) = 0 then Z else s_X7_goFor_Z Z tr ((10 * p1) + p2)) else if p0 = 2 then Z else if p0 = 3 then Z else if p0 = 4 then Z else if p0 = 5 then Z else if p0 = 6 then Z else if p0 = 7 then Z else Z
def s_X7_does_tr (Z : Nat → Int32) (tr : Nat → Int32) (p0 : Int32) (p1 : Int32) (p2 : Int32) : Nat → Int32 := if (r_X7_noEnd p1) = 0 then (if p1 = 0 then (if (r_X7_noEnd p2) = 0 then (if p0 = 1 then (if (r_X7_in (((10 * p1) + p2).toInt64) 1 30) = 0 then tr else s_X7_goFor_f Z tr ((10 * p1) + p2)) else if p0 = 2 then (if p2 = 0 then (upd tr 7 ((tr 7) ^^^ 1)) else upd tr 23 ((tr 23) ^^^ 1)) else if p0 = 3 then (if p2 = 0 then (upd tr 32 ((tr 32) ^^^ 1)) else upd tr 33 ((tr 33) ^^^ 1)) else if p0 = 4 then (if p2 = 0 then (if (r_X7_mayPoll_0 tr) = 0 then tr else upd (upd (upd tr 6 1) 8 0) 9 0) else if (r_X7_mayPoll_16 tr) = 0 then tr else upd (upd (upd tr 22 1) 24 0) 25 0) else if p0 = 5 then (if tr 5 = p2 then tr else tr) else if p0 = 6 then (if tr 6 = p2 then tr else tr) else if p0 = 7 then (if (r_X7_paceOn_0 tr) = p2 then tr else tr) else tr) else if p0 = 1 then (if (r_X7_in (((10 * p1) + p2).toInt64) 1 30) = 0 then tr else s_X7_goFor_f Z tr ((10 * p1) + p2)) else if p0 = 2 then (upd tr 7 ((tr 7) ^^^ 0)) else if p0 = 3 then (upd tr 32 ((tr 32) ^^^ 0)) else if p0 = 4 then tr else if p0 = 5 then (if tr 5 = p2 then tr else tr) else if p0 = 6 then (if tr 6 = p2 then tr else tr) else if p0 = 7 then (if (r_X7_paceOn_0 tr) = p2 then tr else tr) else tr) else if p0 = 1 then (if (r_X7_in (((10 * p1) + p2).toInt64) 1 30) = 0 then tr else s_X7_goFor_f Z tr ((10 * p1) + p2)) else if p0 = 2 then (upd tr 7 ((tr 7) ^^^ 0)) else if p0 = 3 then (upd tr 32 ((tr 32) ^^^ 0)) else if p0 = 4 then tr else if p0 = 5 then (if tr 21 = p2 then tr else tr) else if p0 = 6 then (if tr 22 = p2 then tr else tr) else if p0 = 7 then (if (r_X7_paceOn_16 tr) = p2 then tr else tr) else tr) else if p1 = 0 then (if (r_X7_noEnd p2) = 0 then (if p0 = 1 then (if (r_X7_in (((10 * p1) + p2).toInt64) 1 30) = 0 then tr else s_X7_goFor_f Z tr ((10 * p1) + p2)) else if p0 = 2 then (if p2 = 0 then (upd tr 7 ((tr 7) ^^^ 1)) else upd tr 23 ((tr 23) ^^^ 1)) else if p0 = 3 then (if p2 = 0 then (upd tr 32 ((tr 32) ^^^ 1)) else upd tr 33 ((tr 33) ^^^ 1)) else if p0 = 4 then (if p2 = 0 then (if (r_X7_mayPoll_0 tr) = 0 then tr else upd (upd (upd tr 6 1) 8 0) 9 0) else if (r_X7_mayPoll_16 tr) = 0 then tr else upd (upd (upd tr 22 1) 24 0) 25 0) else if p0 = 5 then tr else if p0 = 6 then tr else if p0 = 7 then tr else tr) else if p0 = 1 then (if (r_X7_in (((10 * p1) + p2).toInt64) 1 30) = 0 then tr else s_X7_goFor_f Z tr ((10 * p1) + p2)) else if p0 = 2 then (upd tr 7 ((tr 7) ^^^ 0)) else if p0 = 3 then (upd tr 32 ((tr 32) ^^^ 0)) else if p0 = 4 then tr else if p0 = 5 then tr else if p0 = 6 then tr else if p0 = 7 then tr else tr) else if p0 = 1 then (if (r_X7_in (((10 * p1) + p2).toInt64) 1 30) = 0 then tr else s_X7_goFor_f Z tr ((10 * p1) + p2)) else if p0 = 2 then (upd tr 7 ((tr 7) ^^^ 0)) else if p0 = 3 then (upd tr 32 ((tr 32) ^^^ 0)) else if p0 = 4 then tr else if p0 = 5 then tr else if p0 = 6 then tr else if p0 = 7 then tr else tr
set_option maxHeartbeats 4000000 in
set_option maxRecDepth 100000 in
theorem c_X7_does (l : Launch) (G : kG) (Z : Nat → Int32) (sd : Int64) (h0 : Nat) (q1 : Nat) (q2 : Nat) (q3 : Nat) (q4 : Nat) (q5 : Nat) (q6 : Nat) (q7 : Nat) (q8 : Nat) (q9 : Nat) (q10 : Nat) (q11 : Nat) (tr : Nat → Int32) (p0 : Int32) (p1 : Int32) (p2 : Int32) : cG l G yX7_does cX7_does 7 (some .boolean) 6 [.ref h0, .int p0, .int p1, .int p2] ([(h0, .inr (7, cM Z q1 q2 q3 q4 q5 q6 q7 q8 q9 q10 q11 sd)), (q5, .inl (G.2.1, 55, .inl tr))]) (qI G (fun (r : Int32) (u : ((Nat → Int32) × (Nat → Int32))) => r = r_X7_does tr p0 p1 p2 ∧ u.1 = s_X7_does_Z Z tr p0 p1 p2 ∧ u.2 = s_X7_does_tr Z tr p0 p1 p2) (fun u => [(h0, .inr (7, cM u.1 q1 q2 q3 q4 q5 q6 q7 q8 q9 q10 q11 sd)), (q5, .inl (G.2.1, 55, .inl u.2))])) := by
  refine kintro (by decide) (Nat.le_of_ble_eq_true rfl) ?_
  intro p e s m args below meth c A ls kx hK hP hD hS hA hl
  have kx : kX p s m args meth c cX7_does 7 (some .boolean) RX7 := kx
  have hx := kx.1
  have hb := kx.2.1
  have hown := kx.2.2.2.2.1
  have ht := kx.2.2.2.2.2.2
  have hl : lv_has ls 7 [(0, .ref h0), (1, .int p0), (2, .int p1), (3, .int p2)] := hl
  refine lv_bipush (v := 10) hx hb dX7_does_0 (by decide) ?_
  refine lv_iload_n hx hb dX7_does_2 rfl (lv_at hl 2 rfl) ?_
  refine lv_imul hx hb dX7_does_3 ?_
  refine lv_iload_n hx hb dX7_does_4 rfl (lv_at hl 3 rfl) ?_
  refine lv_iadd hx hb dX7_does_5 ?_
  refine lv_istore (lv' := [(4, .int ((10 * p1) + p2)), (0, .ref h0), (1, .int p0), (2, .int p1), (3, .int p2)]) hx hb dX7_does_6 hl (by decide) rfl (fun ls1 hl1 => ?_)
  refine lv_iload_n hx hb dX7_does_8 rfl (lv_at hl1 3 rfl) ?_
  refine k_calli (kRunS (As := [.int p1]) (rest := []) kx (c_X7_noEnd l G p1) q_824 q_822 q_36 q_823 nX7_noEnd ⟨Nat.le_of_ble_eq_true rfl, Nat.le_of_ble_eq_true rfl⟩ hK hP hD (kCtx_nil _) rfl hl1.1 (Nat.le_of_ble_eq_true rfl) dX7_does_9 ⟨Nat.zero_le _, Nat.zero_le _⟩) hP hD hS hA (kCtx_nil _) (fun _ => rfl) (fun r1 _ H2 locs2 hw hP2 hD2 hS2 => ?_)
  have hr1 : r_X7_noEnd p1 = r1 := (show r1 = r_X7_noEnd p1 from hw).symm
  have hP3 : va_P G.1 vwCl ([(h0, .inr (7, cM Z q1 q2 q3 q4 q5 q6 q7 q8 q9 q10 q11 sd)), (q5, .inl (G.2.1, 55, .inl tr))]) H2 := hP2
  have hD4 : va_D A ([(h0, .inr (7, cM Z q1 q2 q3 q4 q5 q6 q7 q8 q9 q10 q11 sd)), (q5, .inl (G.2.1, 55, .inl tr))]) := hD2
  refine lv_if_ne (x := r1) (tgt := 19) hx hb dX7_does_12 (by decide) (fun (c2 : ¬ (r1 = 0)) => ?_) (fun (c2 : r1 = 0) => ?_)
  · skip
    refine lv_iconst (v := 0) hx hb dX7_does_19 (by decide) ?_
    refine lv_istore (lv' := [(5, .int 0), (4, .int ((10 * p1) + p2)), (0, .ref h0), (1, .int p0), (2, .int p1), (3, .int p2)]) hx hb dX7_does_20 hl1 (by decide) rfl (fun ls5 hl5 => ?_)
    refine lv_iload_n hx hb dX7_does_22 rfl (lv_at hl5 4 rfl) ?_
    refine lv_if_ne (x := p1) (tgt := 37) hx hb dX7_does_23 (by decide) (fun (c3 : ¬ (p1 = 0)) => ?_) (fun (c3 : p1 = 0) => ?_)
    · skip
      refine lv_iconst (v := 0) hx hb dX7_does_37 (by decide) ?_
      refine lv_istore (lv' := [(6, .int 0), (5, .int 0), (4, .int ((10 * p1) + p2)), (0, .ref h0), (1, .int p0), (2, .int p1), (3, .int p2)]) hx hb dX7_does_38 hl5 (by decide) rfl (fun ls6 hl6 => ?_)
      refine lv_iload_n hx hb dX7_does_40 rfl (lv_at hl6 4 rfl) ?_
      by_cases c4 : p0 = 1
      · skip
        refine lv_tableIn (off := 43) (tgt := 84) hx hb dX7_does_41 (by rw [c4]; decide) (by rw [c4]; decide) (by rw [c4]; rfl) (by decide) ?_
        refine lv_iload hx hb dX7_does_84 (lv_at hl6 2 rfl) ?_
        refine lv_i2l (v := ((10 * p1) + p2).toInt64) hx hb dX7_does_86 rfl ?_
        refine lv_lconst (v := 1) hx hb dX7_does_87 (by decide) ?_
        refine lv_ldc2 (v := 30) hx hb hown (ht _ q_851) dX7_does_88 ?_
        refine k_calli (kRunS (As := [.long (((10 * p1) + p2).toInt64), .long 1, .long 30]) (rest := []) kx (c_X7_in l G (((10 * p1) + p2).toInt64) 1 30) q_740 q_738 q_36 q_739 nX7_in ⟨Nat.le_of_ble_eq_true rfl, Nat.le_of_ble_eq_true rfl⟩ hK hP3 hD4 (kCtx_nil _) rfl hl6.1 (Nat.le_of_ble_eq_true rfl) dX7_does_91 ⟨Nat.zero_le _, Nat.zero_le _⟩) hP3 hD4 hS2 hA (kCtx_nil _) (fun _ => rfl) (fun r5 _ H7 locs7 hw hP7 hD7 hS7 => ?_)
        have hr5 : r_X7_in (((10 * p1) + p2).toInt64) 1 30 = r5 := (show r5 = r_X7_in (((10 * p1) + p2).toInt64) 1 30 from hw).symm
        have hP8 : va_P G.1 vwCl ([(h0, .inr (7, cM Z q1 q2 q3 q4 q5 q6 q7 q8 q9 q10 q11 sd)), (q5, .inl (G.2.1, 55, .inl tr))]) H7 := hP7
        have hD9 : va_D A ([(h0, .inr (7, cM Z q1 q2 q3 q4 q5 q6 q7 q8 q9 q10 q11 sd)), (q5, .inl (G.2.1, 55, .inl tr))]) := hD7
        refine lv_if_ne (x := r5) (tgt := 99) hx hb dX7_does_94 (by decide) (fun (c6 : ¬ (r5 = 0)) => ?_) (fun (c6 : r5 = 0) => ?_)
        · skip
          refine lv_aload_n hx hb dX7_does_99 rfl (lv_at hl6 3 rfl) ?_
          refine lv_aload_n hx hb dX7_does_100 rfl (lv_at hl6 3 rfl) ?_
          refine va_get (ci := 7) (v := .ref q5) (C := RX7) (T := TX7) (N := 22) hx hb ht inX7 hown hK.1 hP8 0 rfl rfl 8 (by decide) (ht _ q_674) (fun _ h9 => h9) rfl dX7_does_101 ?_
          refine lv_iload hx hb dX7_does_104 (lv_at hl6 2 rfl) ?_
          refine k_callv (kRunV (As := [.ref q5, .int ((10 * p1) + p2)]) (rest := []) kx (c_X7_goFor l G Z sd h0 q1 q2 q3 q4 q5 q6 q7 q8 q9 q10 q11 tr q5 ((10 * p1) + p2)) q_778 q_775 q_36 q_777 q_17 nX7_goFor ⟨Nat.le_of_ble_eq_true rfl, Nat.le_of_ble_eq_true rfl⟩ hK hP8 hD9 (kCtx_all _) 0 7 rfl rfl rfl rfl hl6.1 (Nat.le_of_ble_eq_true rfl) dX7_does_106 ⟨Nat.zero_le _, Nat.zero_le _⟩) hP8 hD9 hS7 hA (kCtx_all _) (fun _ => rfl) (fun u H10 locs10 hw hP10 hD10 hS10 => ?_)
          obtain ⟨F8, F9⟩ := u
          obtain ⟨hF8, hF9⟩ := hw
          have hF8 : s_X7_goFor_Z Z tr ((10 * p1) + p2) = F8 := (show F8 = s_X7_goFor_Z Z tr ((10 * p1) + p2) from hF8).symm
          have hF9 : s_X7_goFor_f Z tr ((10 * p1) + p2) = F9 := (show F9 = s_X7_goFor_f Z tr ((10 * p1) + p2) from hF9).symm
          have hP11 : va_P G.1 vwCl ([(h0, .inr (7, cM F8 q1 q2 q3 q4 q5 q6 q7 q8 q9 q10 q11 sd)), (q5, .inl (G.2.1, 55, .inl F9))]) H10 := hP10
          have hD12 : va_D A ([(h0, .inr (7, cM F8 q1 q2 q3 q4 q5 q6 q7 q8 q9 q10 q11 sd)), (q5, .inl (G.2.1, 55, .inl F9))]) := hD10
          refine lv_iconst (v := 1) hx hb dX7_does_109 (by decide) ?_
          have er : r_X7_does tr p0 p1 p2 = 1 := by rw [r_X7_does]; (try rw [hr1]); (try rw [hr5]); (try rw [hF8]); (try rw [hF9]); rw [if_neg c2, if_neg c3, if_pos c4, if_neg c6]
          have e0 : s_X7_does_Z Z tr p0 p1 p2 = F8 := by rw [s_X7_does_Z]; (try rw [hr1]); (try rw [hr5]); (try rw [hF8]); (try rw [hF9]); rw [if_neg c2, if_neg c3, if_pos c4, if_neg c6]
          have e1 : s_X7_does_tr Z tr p0 p1 p2 = F9 := by rw [s_X7_does_tr]; (try rw [hr1]); (try rw [hr5]); (try rw [hF8]); (try rw [hF9]); rw [if_neg c2, if_neg c3, if_pos c4, if_neg c6]
          exact k_zret kx hK hP11 hD12 hS10 (u := (F8, F9)) rfl ⟨er.symm, e0.symm, e1.symm⟩ kb1 dX7_does_110
        · skip
          refine lv_iconst (v := 0) hx hb dX7_does_97 (by decide) ?_
          have er : r_X7_does tr p0 p1 p2 = 0 := by rw [r_X7_does]; (try rw [hr1]); (try rw [hr5]); rw [if_neg c2, if_neg c3, if_pos c4, if_pos c6]
          have e0 : s_X7_does_Z Z tr p0 p1 p2 = Z := by rw [s_X7_does_Z]; (try rw [hr1]); (try rw [hr5]); rw [if_neg c2, if_neg c3, if_pos c4, if_pos c6]
          have e1 : s_X7_does_tr Z tr p0 p1 p2 = tr := by rw [s_X7_does_tr]; (try rw [hr1]); (try rw [hr5]); rw [if_neg c2, if_neg c3, if_pos c4, if_pos c6]
          exact k_zret kx hK hP8 hD9 hS7 (u := (Z, tr)) rfl ⟨er.symm, e0.symm, e1.symm⟩ kb0 dX7_does_98
      · skip
        by_cases c10 : p0 = 2
        · skip
          refine lv_tableIn (off := 70) (tgt := 111) hx hb dX7_does_41 (by rw [c10]; decide) (by rw [c10]; decide) (by rw [c10]; rfl) (by decide) ?_
          refine lv_aload_n hx hb dX7_does_111 rfl (lv_at hl6 3 rfl) ?_
          refine va_get (ci := 7) (v := .ref q5) (C := RX7) (T := TX7) (N := 22) hx hb ht inX7 hown hK.1 hP3 0 rfl rfl 8 (by decide) (ht _ q_674) (fun _ h9 => h9) rfl dX7_does_112 ?_
          refine lv_iload hx hb dX7_does_115 (lv_at hl6 0 rfl) ?_
          refine lv_if_eq (x := 0) (tgt := 130) hx hb dX7_does_117 (by decide) (fun (c11 : 0 = 0) => ?_) (fun (c11 : ¬ (0 = 0)) => absurd (by decide) c11)
          refine lv_bipush (v := 7) hx hb dX7_does_130 (by decide) ?_
          refine lv_dup2_11 hx hb dX7_does_132 rfl rfl ?_
          refine k_iald (v := (tr 7)) kx hK hP3 1 rfl 7 rfl (by decide) (by decide) rfl dX7_does_133 ?_
          refine lv_iload hx hb dX7_does_134 (lv_at hl6 0 rfl) ?_
          refine lv_if_eq (x := 0) (tgt := 143) hx hb dX7_does_136 (by decide) (fun (c12 : 0 = 0) => ?_) (fun (c12 : ¬ (0 = 0)) => absurd (by decide) c12)
          refine lv_iconst (v := 0) hx hb dX7_does_143 (by decide) ?_
          refine lv_ixor hx hb dX7_does_144 ?_
          refine k_iast kx hK hP3 hD4 hS2 1 rfl 7 rfl (by decide) (by decide) dX7_does_145 (fun H13 locs13 hP13 hD13 hS13 => ?_)
          have hP14 : va_P G.1 vwCl ([(h0, .inr (7, cM Z q1 q2 q3 q4 q5 q6 q7 q8 q9 q10 q11 sd)), (q5, .inl (G.2.1, 55, .inl (upd tr 7 ((tr 7) ^^^ 0))))]) H13 := hP13
          have hD15 : va_D A ([(h0, .inr (7, cM Z q1 q2 q3 q4 q5 q6 q7 q8 q9 q10 q11 sd)), (q5, .inl (G.2.1, 55, .inl (upd tr 7 ((tr 7) ^^^ 0))))]) := hD13
          refine lv_iload hx hb dX7_does_146 (lv_at hl6 0 rfl) ?_
          have er : r_X7_does tr p0 p1 p2 = 0 := by rw [r_X7_does]; (try rw [hr1]); rw [if_neg c2, if_neg c3, if_neg c4, if_pos c10]
          have e0 : s_X7_does_Z Z tr p0 p1 p2 = Z := by rw [s_X7_does_Z]; (try rw [hr1]); rw [if_neg c2, if_neg c3, if_neg c4, if_pos c10]
          have e1 : s_X7_does_tr Z tr p0 p1 p2 = upd tr 7 ((tr 7) ^^^ 0) := by rw [s_X7_does_tr]; (try rw [hr1]); rw [if_neg c2, if_neg c3, if_neg c4, if_pos c10]
          exact k_zret kx hK hP14 hD15 hS13 (u := (Z, upd tr 7 ((tr 7) ^^^ 0))) rfl ⟨er.symm, e0.symm, e1.symm⟩ kb0 dX7_does_148
        · skip
          by_cases c13 : p0 = 3
          · skip
            refine lv_tableIn (off := 108) (tgt := 149) hx hb dX7_does_41 (by rw [c13]; decide) (by rw [c13]; decide) (by rw [c13]; rfl) (by decide) ?_
            refine lv_aload_n hx hb dX7_does_149 rfl (lv_at hl6 3 rfl) ?_
            refine va_get (ci := 7) (v := .ref q5) (C := RX7) (T := TX7) (N := 22) hx hb ht inX7 hown hK.1 hP3 0 rfl rfl 8 (by decide) (ht _ q_674) (fun _ h9 => h9) rfl dX7_does_150 ?_
            refine lv_iload hx hb dX7_does_153 (lv_at hl6 0 rfl) ?_
            refine lv_if_eq (x := 0) (tgt := 165) hx hb dX7_does_155 (by decide) (fun (c14 : 0 = 0) => ?_) (fun (c14 : ¬ (0 = 0)) => absurd (by decide) c14)
            refine lv_bipush (v := 32) hx hb dX7_does_165 (by decide) ?_
            refine lv_dup2_11 hx hb dX7_does_167 rfl rfl ?_
            refine k_iald (v := (tr 32)) kx hK hP3 1 rfl 32 rfl (by decide) (by decide) rfl dX7_does_168 ?_
            refine lv_iload hx hb dX7_does_169 (lv_at hl6 0 rfl) ?_
            refine lv_if_eq (x := 0) (tgt := 178) hx hb dX7_does_171 (by decide) (fun (c15 : 0 = 0) => ?_) (fun (c15 : ¬ (0 = 0)) => absurd (by decide) c15)
            refine lv_iconst (v := 0) hx hb dX7_does_178 (by decide) ?_
            refine lv_ixor hx hb dX7_does_179 ?_
            refine k_iast kx hK hP3 hD4 hS2 1 rfl 32 rfl (by decide) (by decide) dX7_does_180 (fun H16 locs16 hP16 hD16 hS16 => ?_)
            have hP17 : va_P G.1 vwCl ([(h0, .inr (7, cM Z q1 q2 q3 q4 q5 q6 q7 q8 q9 q10 q11 sd)), (q5, .inl (G.2.1, 55, .inl (upd tr 32 ((tr 32) ^^^ 0))))]) H16 := hP16
            have hD18 : va_D A ([(h0, .inr (7, cM Z q1 q2 q3 q4 q5 q6 q7 q8 q9 q10 q11 sd)), (q5, .inl (G.2.1, 55, .inl (upd tr 32 ((tr 32) ^^^ 0))))]) := hD16
            refine lv_iload hx hb dX7_does_181 (lv_at hl6 0 rfl) ?_
            have er : r_X7_does tr p0 p1 p2 = 0 := by rw [r_X7_does]; (try rw [hr1]); rw [if_neg c2, if_neg c3, if_neg c4, if_neg c10, if_pos c13]
            have e0 : s_X7_does_Z Z tr p0 p1 p2 = Z := by rw [s_X7_does_Z]; (try rw [hr1]); rw [if_neg c2, if_neg c3, if_neg c4, if_neg c10, if_pos c13]
            have e1 : s_X7_does_tr Z tr p0 p1 p2 = upd tr 32 ((tr 32) ^^^ 0) := by rw [s_X7_does_tr]; (try rw [hr1]); rw [if_neg c2, if_neg c3, if_neg c4, if_neg c10, if_pos c13]
            exact k_zret kx hK hP17 hD18 hS16 (u := (Z, upd tr 32 ((tr 32) ^^^ 0))) rfl ⟨er.symm, e0.symm, e1.symm⟩ kb0 dX7_does_183
          · skip
            by_cases c16 : p0 = 4
            · skip
              refine lv_tableIn (off := 143) (tgt := 184) hx hb dX7_does_41 (by rw [c16]; decide) (by rw [c16]; decide) (by rw [c16]; rfl) (by decide) ?_
              refine lv_iload hx hb dX7_does_184 (lv_at hl6 0 rfl) ?_
              refine lv_if_eq (x := 0) (tgt := 203) hx hb dX7_does_186 (by decide) (fun (c17 : 0 = 0) => ?_) (fun (c17 : ¬ (0 = 0)) => absurd (by decide) c17)
              refine lv_iconst (v := 0) hx hb dX7_does_203 (by decide) ?_
              have er : r_X7_does tr p0 p1 p2 = 0 := by rw [r_X7_does]; (try rw [hr1]); rw [if_neg c2, if_neg c3, if_neg c4, if_neg c10, if_neg c13, if_pos c16]
              have e0 : s_X7_does_Z Z tr p0 p1 p2 = Z := by rw [s_X7_does_Z]; (try rw [hr1]); rw [if_neg c2, if_neg c3, if_neg c4, if_neg c10, if_neg c13, if_pos c16]
              have e1 : s_X7_does_tr Z tr p0 p1 p2 = tr := by rw [s_X7_does_tr]; (try rw [hr1]); rw [if_neg c2, if_neg c3, if_neg c4, if_neg c10, if_neg c13, if_pos c16]
              exact k_zret kx hK hP3 hD4 hS2 (u := (Z, tr)) rfl ⟨er.symm, e0.symm, e1.symm⟩ kb0 dX7_does_204
            · skip
              by_cases c18 : p0 = 5
              · skip
                refine lv_tableIn (off := 177) (tgt := 218) hx hb dX7_does_41 (by rw [c18]; decide) (by rw [c18]; decide) (by rw [c18]; rfl) (by decide) ?_
                refine lv_iload hx hb dX7_does_218 (lv_at hl6 1 rfl) ?_
                refine lv_if_eq (x := 0) (tgt := 242) hx hb dX7_does_220 (by decide) (fun (c19 : 0 = 0) => ?_) (fun (c19 : ¬ (0 = 0)) => absurd (by decide) c19)
                refine lv_iconst (v := 0) hx hb dX7_does_242 (by decide) ?_
                have er : r_X7_does tr p0 p1 p2 = 0 := by rw [r_X7_does]; (try rw [hr1]); rw [if_neg c2, if_neg c3, if_neg c4, if_neg c10, if_neg c13, if_neg c16, if_pos c18]
                have e0 : s_X7_does_Z Z tr p0 p1 p2 = Z := by rw [s_X7_does_Z]; (try rw [hr1]); rw [if_neg c2, if_neg c3, if_neg c4, if_neg c10, if_neg c13, if_neg c16, if_pos c18]
                have e1 : s_X7_does_tr Z tr p0 p1 p2 = tr := by rw [s_X7_does_tr]; (try rw [hr1]); rw [if_neg c2, if_neg c3, if_neg c4, if_neg c10, if_neg c13, if_neg c16, if_pos c18]
                exact k_zret kx hK hP3 hD4 hS2 (u := (Z, tr)) rfl ⟨er.symm, e0.symm, e1.symm⟩ kb0 dX7_does_243
              · skip
                by_cases c20 : p0 = 6
                · skip
                  refine lv_tableIn (off := 203) (tgt := 244) hx hb dX7_does_41 (by rw [c20]; decide) (by rw [c20]; decide) (by rw [c20]; rfl) (by decide) ?_
                  refine lv_iload hx hb dX7_does_244 (lv_at hl6 1 rfl) ?_
                  refine lv_if_eq (x := 0) (tgt := 269) hx hb dX7_does_246 (by decide) (fun (c21 : 0 = 0) => ?_) (fun (c21 : ¬ (0 = 0)) => absurd (by decide) c21)
                  refine lv_iconst (v := 0) hx hb dX7_does_269 (by decide) ?_
                  have er : r_X7_does tr p0 p1 p2 = 0 := by rw [r_X7_does]; (try rw [hr1]); rw [if_neg c2, if_neg c3, if_neg c4, if_neg c10, if_neg c13, if_neg c16, if_neg c18, if_pos c20]
                  have e0 : s_X7_does_Z Z tr p0 p1 p2 = Z := by rw [s_X7_does_Z]; (try rw [hr1]); rw [if_neg c2, if_neg c3, if_neg c4, if_neg c10, if_neg c13, if_neg c16, if_neg c18, if_pos c20]
                  have e1 : s_X7_does_tr Z tr p0 p1 p2 = tr := by rw [s_X7_does_tr]; (try rw [hr1]); rw [if_neg c2, if_neg c3, if_neg c4, if_neg c10, if_neg c13, if_neg c16, if_neg c18, if_pos c20]
                  exact k_zret kx hK hP3 hD4 hS2 (u := (Z, tr)) rfl ⟨er.symm, e0.symm, e1.symm⟩ kb0 dX7_does_270
                · skip
                  by_cases c22 : p0 = 7
                  · skip
                    refine lv_tableIn (off := 230) (tgt := 271) hx hb dX7_does_41 (by rw [c22]; decide) (by rw [c22]; decide) (by rw [c22]; rfl) (by decide) ?_
                    refine lv_iload hx hb dX7_does_271 (lv_at hl6 1 rfl) ?_
                    refine lv_if_eq (x := 0) (tgt := 295) hx hb dX7_does_273 (by decide) (fun (c23 : 0 = 0) => ?_) (fun (c23 : ¬ (0 = 0)) => absurd (by decide) c23)
                    refine lv_iconst (v := 0) hx hb dX7_does_295 (by decide) ?_
                    have er : r_X7_does tr p0 p1 p2 = 0 := by rw [r_X7_does]; (try rw [hr1]); rw [if_neg c2, if_neg c3, if_neg c4, if_neg c10, if_neg c13, if_neg c16, if_neg c18, if_neg c20, if_pos c22]
                    have e0 : s_X7_does_Z Z tr p0 p1 p2 = Z := by rw [s_X7_does_Z]; (try rw [hr1]); rw [if_neg c2, if_neg c3, if_neg c4, if_neg c10, if_neg c13, if_neg c16, if_neg c18, if_neg c20, if_pos c22]
                    have e1 : s_X7_does_tr Z tr p0 p1 p2 = tr := by rw [s_X7_does_tr]; (try rw [hr1]); rw [if_neg c2, if_neg c3, if_neg c4, if_neg c10, if_neg c13, if_neg c16, if_neg c18, if_neg c20, if_pos c22]
                    exact k_zret kx hK hP3 hD4 hS2 (u := (Z, tr)) rfl ⟨er.symm, e0.symm, e1.symm⟩ kb0 dX7_does_296
                  · skip
                    have nc4 := lv_neT (a := 1) c4 (by decide)
                    have nc10 := lv_neT (a := 2) c10 (by decide)
                    have nc13 := lv_neT (a := 3) c13 (by decide)
                    have nc16 := lv_neT (a := 4) c16 (by decide)
                    have nc18 := lv_neT (a := 5) c18 (by decide)
                    have nc20 := lv_neT (a := 6) c20 (by decide)
                    have nc22 := lv_neT (a := 7) c22 (by decide)
                    refine lv_tableOut (tgt := 297) hx hb dX7_does_41 (by omega) (by decide) ?_
                    refine lv_iconst (v := 0) hx hb dX7_does_297 (by decide) ?_
                    have er : r_X7_does tr p0 p1 p2 = 0 := by rw [r_X7_does]; (try rw [hr1]); rw [if_neg c2, if_neg c3, if_neg c4, if_neg c10, if_neg c13, if_neg c16, if_neg c18, if_neg c20, if_neg c22]
                    have e0 : s_X7_does_Z Z tr p0 p1 p2 = Z := by rw [s_X7_does_Z]; (try rw [hr1]); rw [if_neg c2, if_neg c3, if_neg c4, if_neg c10, if_neg c13, if_neg c16, if_neg c18, if_neg c20, if_neg c22]
                    have e1 : s_X7_does_tr Z tr p0 p1 p2 = tr := by rw [s_X7_does_tr]; (try rw [hr1]); rw [if_neg c2, if_neg c3, if_neg c4, if_neg c10, if_neg c13, if_neg c16, if_neg c18, if_neg c20, if_neg c22]
                    exact k_zret kx hK hP3 hD4 hS2 (u := (Z, tr)) rfl ⟨er.symm, e0.symm, e1.symm⟩ kb0 dX7_does_298
    · skip
      refine lv_iload_n hx hb dX7_does_26 rfl (lv_at hl5 5 rfl) ?_
      refine k_calli (kRunS (As := [.int p2]) (rest := []) kx (c_X7_noEnd l G p2) q_824 q_822 q_36 q_823 nX7_noEnd ⟨Nat.le_of_ble_eq_true rfl, Nat.le_of_ble_eq_true rfl⟩ hK hP3 hD4 (kCtx_nil _) rfl hl5.1 (Nat.le_of_ble_eq_true rfl) dX7_does_27 ⟨Nat.zero_le _, Nat.zero_le _⟩) hP3 hD4 hS2 hA (kCtx_nil _) (fun _ => rfl) (fun r24 _ H19 locs19 hw hP19 hD19 hS19 => ?_)
      have hr24 : r_X7_noEnd p2 = r24 := (show r24 = r_X7_noEnd p2 from hw).symm
      have hP20 : va_P G.1 vwCl ([(h0, .inr (7, cM Z q1 q2 q3 q4 q5 q6 q7 q8 q9 q10 q11 sd)), (q5, .inl (G.2.1, 55, .inl tr))]) H19 := hP19
      have hD21 : va_D A ([(h0, .inr (7, cM Z q1 q2 q3 q4 q5 q6 q7 q8 q9 q10 q11 sd)), (q5, .inl (G.2.1, 55, .inl tr))]) := hD19
      refine lv_if_ne (x := r24) (tgt := 37) hx hb dX7_does_30 (by decide) (fun (c25 : ¬ (r24 = 0)) => ?_) (fun (c25 : r24 = 0) => ?_)
      · skip
        refine lv_iconst (v := 0) hx hb dX7_does_37 (by decide) ?_
        refine lv_istore (lv' := [(6, .int 0), (5, .int 0), (4, .int ((10 * p1) + p2)), (0, .ref h0), (1, .int p0), (2, .int p1), (3, .int p2)]) hx hb dX7_does_38 hl5 (by decide) rfl (fun ls22 hl22 => ?_)
        refine lv_iload_n hx hb dX7_does_40 rfl (lv_at hl22 4 rfl) ?_
        by_cases c26 : p0 = 1
        · skip
          refine lv_tableIn (off := 43) (tgt := 84) hx hb dX7_does_41 (by rw [c26]; decide) (by rw [c26]; decide) (by rw [c26]; rfl) (by decide) ?_
          refine lv_iload hx hb dX7_does_84 (lv_at hl22 2 rfl) ?_
          refine lv_i2l (v := ((10 * p1) + p2).toInt64) hx hb dX7_does_86 rfl ?_
          refine lv_lconst (v := 1) hx hb dX7_does_87 (by decide) ?_
          refine lv_ldc2 (v := 30) hx hb hown (ht _ q_851) dX7_does_88 ?_
          refine k_calli (kRunS (As := [.long (((10 * p1) + p2).toInt64), .long 1, .long 30]) (rest := []) kx (c_X7_in l G (((10 * p1) + p2).toInt64) 1 30) q_740 q_738 q_36 q_739 nX7_in ⟨Nat.le_of_ble_eq_true rfl, Nat.le_of_ble_eq_true rfl⟩ hK hP20 hD21 (kCtx_nil _) rfl hl22.1 (Nat.le_of_ble_eq_true rfl) dX7_does_91 ⟨Nat.zero_le _, Nat.zero_le _⟩) hP20 hD21 hS19 hA (kCtx_nil _) (fun _ => rfl) (fun r27 _ H23 locs23 hw hP23 hD23 hS23 => ?_)
          have hr27 : r_X7_in (((10 * p1) + p2).toInt64) 1 30 = r27 := (show r27 = r_X7_in (((10 * p1) + p2).toInt64) 1 30 from hw).symm
          have hP24 : va_P G.1 vwCl ([(h0, .inr (7, cM Z q1 q2 q3 q4 q5 q6 q7 q8 q9 q10 q11 sd)), (q5, .inl (G.2.1, 55, .inl tr))]) H23 := hP23
          have hD25 : va_D A ([(h0, .inr (7, cM Z q1 q2 q3 q4 q5 q6 q7 q8 q9 q10 q11 sd)), (q5, .inl (G.2.1, 55, .inl tr))]) := hD23
          refine lv_if_ne (x := r27) (tgt := 99) hx hb dX7_does_94 (by decide) (fun (c28 : ¬ (r27 = 0)) => ?_) (fun (c28 : r27 = 0) => ?_)
          · skip
            refine lv_aload_n hx hb dX7_does_99 rfl (lv_at hl22 3 rfl) ?_
            refine lv_aload_n hx hb dX7_does_100 rfl (lv_at hl22 3 rfl) ?_
            refine va_get (ci := 7) (v := .ref q5) (C := RX7) (T := TX7) (N := 22) hx hb ht inX7 hown hK.1 hP24 0 rfl rfl 8 (by decide) (ht _ q_674) (fun _ h9 => h9) rfl dX7_does_101 ?_
            refine lv_iload hx hb dX7_does_104 (lv_at hl22 2 rfl) ?_
            refine k_callv (kRunV (As := [.ref q5, .int ((10 * p1) + p2)]) (rest := []) kx (c_X7_goFor l G Z sd h0 q1 q2 q3 q4 q5 q6 q7 q8 q9 q10 q11 tr q5 ((10 * p1) + p2)) q_778 q_775 q_36 q_777 q_17 nX7_goFor ⟨Nat.le_of_ble_eq_true rfl, Nat.le_of_ble_eq_true rfl⟩ hK hP24 hD25 (kCtx_all _) 0 7 rfl rfl rfl rfl hl22.1 (Nat.le_of_ble_eq_true rfl) dX7_does_106 ⟨Nat.zero_le _, Nat.zero_le _⟩) hP24 hD25 hS23 hA (kCtx_all _) (fun _ => rfl) (fun u H26 locs26 hw hP26 hD26 hS26 => ?_)
            obtain ⟨F30, F31⟩ := u
            obtain ⟨hF30, hF31⟩ := hw
            have hF30 : s_X7_goFor_Z Z tr ((10 * p1) + p2) = F30 := (show F30 = s_X7_goFor_Z Z tr ((10 * p1) + p2) from hF30).symm
            have hF31 : s_X7_goFor_f Z tr ((10 * p1) + p2) = F31 := (show F31 = s_X7_goFor_f Z tr ((10 * p1) + p2) from hF31).symm
            have hP27 : va_P G.1 vwCl ([(h0, .inr (7, cM F30 q1 q2 q3 q4 q5 q6 q7 q8 q9 q10 q11 sd)), (q5, .inl (G.2.1, 55, .inl F31))]) H26 := hP26
            have hD28 : va_D A ([(h0, .inr (7, cM F30 q1 q2 q3 q4 q5 q6 q7 q8 q9 q10 q11 sd)), (q5, .inl (G.2.1, 55, .inl F31))]) := hD26
            refine lv_iconst (v := 1) hx hb dX7_does_109 (by decide) ?_
            have er : r_X7_does tr p0 p1 p2 = 1 := by rw [r_X7_does]; (try rw [hr1]); (try rw [hr24]); (try rw [hr27]); (try rw [hF30]); (try rw [hF31]); rw [if_neg c2, if_pos c3, if_neg c25, if_pos c26, if_neg c28]
            have e0 : s_X7_does_Z Z tr p0 p1 p2 = F30 := by rw [s_X7_does_Z]; (try rw [hr1]); (try rw [hr24]); (try rw [hr27]); (try rw [hF30]); (try rw [hF31]); rw [if_neg c2, if_pos c3, if_neg c25, if_pos c26, if_neg c28]
            have e1 : s_X7_does_tr Z tr p0 p1 p2 = F31 := by rw [s_X7_does_tr]; (try rw [hr1]); (try rw [hr24]); (try rw [hr27]); (try rw [hF30]); (try rw [hF31]); rw [if_neg c2, if_pos c3, if_neg c25, if_pos c26, if_neg c28]
            exact k_zret kx hK hP27 hD28 hS26 (u := (F30, F31)) rfl ⟨er.symm, e0.symm, e1.symm⟩ kb1 dX7_does_110
          · skip
            refine lv_iconst (v := 0) hx hb dX7_does_97 (by decide) ?_
            have er : r_X7_does tr p0 p1 p2 = 0 := by rw [r_X7_does]; (try rw [hr1]); (try rw [hr24]); (try rw [hr27]); rw [if_neg c2, if_pos c3, if_neg c25, if_pos c26, if_pos c28]
            have e0 : s_X7_does_Z Z tr p0 p1 p2 = Z := by rw [s_X7_does_Z]; (try rw [hr1]); (try rw [hr24]); (try rw [hr27]); rw [if_neg c2, if_pos c3, if_neg c25, if_pos c26, if_pos c28]
            have e1 : s_X7_does_tr Z tr p0 p1 p2 = tr := by rw [s_X7_does_tr]; (try rw [hr1]); (try rw [hr24]); (try rw [hr27]); rw [if_neg c2, if_pos c3, if_neg c25, if_pos c26, if_pos c28]
            exact k_zret kx hK hP24 hD25 hS23 (u := (Z, tr)) rfl ⟨er.symm, e0.symm, e1.symm⟩ kb0 dX7_does_98
        · skip
          by_cases c32 : p0 = 2
          · skip
            refine lv_tableIn (off := 70) (tgt := 111) hx hb dX7_does_41 (by rw [c32]; decide) (by rw [c32]; decide) (by rw [c32]; rfl) (by decide) ?_
            refine lv_aload_n hx hb dX7_does_111 rfl (lv_at hl22 3 rfl) ?_
            refine va_get (ci := 7) (v := .ref q5) (C := RX7) (T := TX7) (N := 22) hx hb ht inX7 hown hK.1 hP20 0 rfl rfl 8 (by decide) (ht _ q_674) (fun _ h9 => h9) rfl dX7_does_112 ?_
            refine lv_iload hx hb dX7_does_115 (lv_at hl22 0 rfl) ?_
            refine lv_if_eq (x := 0) (tgt := 130) hx hb dX7_does_117 (by decide) (fun (c33 : 0 = 0) => ?_) (fun (c33 : ¬ (0 = 0)) => absurd (by decide) c33)
            refine lv_bipush (v := 7) hx hb dX7_does_130 (by decide) ?_
            refine lv_dup2_11 hx hb dX7_does_132 rfl rfl ?_
            refine k_iald (v := (tr 7)) kx hK hP20 1 rfl 7 rfl (by decide) (by decide) rfl dX7_does_133 ?_
            refine lv_iload hx hb dX7_does_134 (lv_at hl22 0 rfl) ?_
            refine lv_if_eq (x := 0) (tgt := 143) hx hb dX7_does_136 (by decide) (fun (c34 : 0 = 0) => ?_) (fun (c34 : ¬ (0 = 0)) => absurd (by decide) c34)
            refine lv_iconst (v := 0) hx hb dX7_does_143 (by decide) ?_
            refine lv_ixor hx hb dX7_does_144 ?_
            refine k_iast kx hK hP20 hD21 hS19 1 rfl 7 rfl (by decide) (by decide) dX7_does_145 (fun H29 locs29 hP29 hD29 hS29 => ?_)
            have hP30 : va_P G.1 vwCl ([(h0, .inr (7, cM Z q1 q2 q3 q4 q5 q6 q7 q8 q9 q10 q11 sd)), (q5, .inl (G.2.1, 55, .inl (upd tr 7 ((tr 7) ^^^ 0))))]) H29 := hP29
            have hD31 : va_D A ([(h0, .inr (7, cM Z q1 q2 q3 q4 q5 q6 q7 q8 q9 q10 q11 sd)), (q5, .inl (G.2.1, 55, .inl (upd tr 7 ((tr 7) ^^^ 0))))]) := hD29
            refine lv_iload hx hb dX7_does_146 (lv_at hl22 0 rfl) ?_
            have er : r_X7_does tr p0 p1 p2 = 0 := by rw [r_X7_does]; (try rw [hr1]); (try rw [hr24]); rw [if_neg c2, if_pos c3, if_neg c25, if_neg c26, if_pos c32]
            have e0 : s_X7_does_Z Z tr p0 p1 p2 = Z := by rw [s_X7_does_Z]; (try rw [hr1]); (try rw [hr24]); rw [if_neg c2, if_pos c3, if_neg c25, if_neg c26, if_pos c32]
            have e1 : s_X7_does_tr Z tr p0 p1 p2 = upd tr 7 ((tr 7) ^^^ 0) := by rw [s_X7_does_tr]; (try rw [hr1]); (try rw [hr24]); rw [if_neg c2, if_pos c3, if_neg c25, if_neg c26, if_pos c32]
            exact k_zret kx hK hP30 hD31 hS29 (u := (Z, upd tr 7 ((tr 7) ^^^ 0))) rfl ⟨er.symm, e0.symm, e1.symm⟩ kb0 dX7_does_148
          · skip
            by_cases c35 : p0 = 3
            · skip
              refine lv_tableIn (off := 108) (tgt := 149) hx hb dX7_does_41 (by rw [c35]; decide) (by rw [c35]; decide) (by rw [c35]; rfl) (by decide) ?_
              refine lv_aload_n hx hb dX7_does_149 rfl (lv_at hl22 3 rfl) ?_
              refine va_get (ci := 7) (v := .ref q5) (C := RX7) (T := TX7) (N := 22) hx hb ht inX7 hown hK.1 hP20 0 rfl rfl 8 (by decide) (ht _ q_674) (fun _ h9 => h9) rfl dX7_does_150 ?_
              refine lv_iload hx hb dX7_does_153 (lv_at hl22 0 rfl) ?_
              refine lv_if_eq (x := 0) (tgt := 165) hx hb dX7_does_155 (by decide) (fun (c36 : 0 = 0) => ?_) (fun (c36 : ¬ (0 = 0)) => absurd (by decide) c36)
              refine lv_bipush (v := 32) hx hb dX7_does_165 (by decide) ?_
              refine lv_dup2_11 hx hb dX7_does_167 rfl rfl ?_
              refine k_iald (v := (tr 32)) kx hK hP20 1 rfl 32 rfl (by decide) (by decide) rfl dX7_does_168 ?_
              refine lv_iload hx hb dX7_does_169 (lv_at hl22 0 rfl) ?_
              refine lv_if_eq (x := 0) (tgt := 178) hx hb dX7_does_171 (by decide) (fun (c37 : 0 = 0) => ?_) (fun (c37 : ¬ (0 = 0)) => absurd (by decide) c37)
              refine lv_iconst (v := 0) hx hb dX7_does_178 (by decide) ?_
              refine lv_ixor hx hb dX7_does_179 ?_
              refine k_iast kx hK hP20 hD21 hS19 1 rfl 32 rfl (by decide) (by decide) dX7_does_180 (fun H32 locs32 hP32 hD32 hS32 => ?_)
              have hP33 : va_P G.1 vwCl ([(h0, .inr (7, cM Z q1 q2 q3 q4 q5 q6 q7 q8 q9 q10 q11 sd)), (q5, .inl (G.2.1, 55, .inl (upd tr 32 ((tr 32) ^^^ 0))))]) H32 := hP32
              have hD34 : va_D A ([(h0, .inr (7, cM Z q1 q2 q3 q4 q5 q6 q7 q8 q9 q10 q11 sd)), (q5, .inl (G.2.1, 55, .inl (upd tr 32 ((tr 32) ^^^ 0))))]) := hD32
              refine lv_iload hx hb dX7_does_181 (lv_at hl22 0 rfl) ?_
              have er : r_X7_does tr p0 p1 p2 = 0 := by rw [r_X7_does]; (try rw [hr1]); (try rw [hr24]); rw [if_neg c2, if_pos c3, if_neg c25, if_neg c26, if_neg c32, if_pos c35]
              have e0 : s_X7_does_Z Z tr p0 p1 p2 = Z := by rw [s_X7_does_Z]; (try rw [hr1]); (try rw [hr24]); rw [if_neg c2, if_pos c3, if_neg c25, if_neg c26, if_neg c32, if_pos c35]
              have e1 : s_X7_does_tr Z tr p0 p1 p2 = upd tr 32 ((tr 32) ^^^ 0) := by rw [s_X7_does_tr]; (try rw [hr1]); (try rw [hr24]); rw [if_neg c2, if_pos c3, if_neg c25, if_neg c26, if_neg c32, if_pos c35]
              exact k_zret kx hK hP33 hD34 hS32 (u := (Z, upd tr 32 ((tr 32) ^^^ 0))) rfl ⟨er.symm, e0.symm, e1.symm⟩ kb0 dX7_does_183
            · skip
              by_cases c38 : p0 = 4
              · skip
                refine lv_tableIn (off := 143) (tgt := 184) hx hb dX7_does_41 (by rw [c38]; decide) (by rw [c38]; decide) (by rw [c38]; rfl) (by decide) ?_
                refine lv_iload hx hb dX7_does_184 (lv_at hl22 0 rfl) ?_
                refine lv_if_eq (x := 0) (tgt := 203) hx hb dX7_does_186 (by decide) (fun (c39 : 0 = 0) => ?_) (fun (c39 : ¬ (0 = 0)) => absurd (by decide) c39)
                refine lv_iconst (v := 0) hx hb dX7_does_203 (by decide) ?_
                have er : r_X7_does tr p0 p1 p2 = 0 := by rw [r_X7_does]; (try rw [hr1]); (try rw [hr24]); rw [if_neg c2, if_pos c3, if_neg c25, if_neg c26, if_neg c32, if_neg c35, if_pos c38]
                have e0 : s_X7_does_Z Z tr p0 p1 p2 = Z := by rw [s_X7_does_Z]; (try rw [hr1]); (try rw [hr24]); rw [if_neg c2, if_pos c3, if_neg c25, if_neg c26, if_neg c32, if_neg c35, if_pos c38]
                have e1 : s_X7_does_tr Z tr p0 p1 p2 = tr := by rw [s_X7_does_tr]; (try rw [hr1]); (try rw [hr24]); rw [if_neg c2, if_pos c3, if_neg c25, if_neg c26, if_neg c32, if_neg c35, if_pos c38]
                exact k_zret kx hK hP20 hD21 hS19 (u := (Z, tr)) rfl ⟨er.symm, e0.symm, e1.symm⟩ kb0 dX7_does_204
              · skip
                by_cases c40 : p0 = 5
                · skip
                  refine lv_tableIn (off := 177) (tgt := 218) hx hb dX7_does_41 (by rw [c40]; decide) (by rw [c40]; decide) (by rw [c40]; rfl) (by decide) ?_
                  refine lv_iload hx hb dX7_does_218 (lv_at hl22 1 rfl) ?_
                  refine lv_if_eq (x := 0) (tgt := 242) hx hb dX7_does_220 (by decide) (fun (c41 : 0 = 0) => ?_) (fun (c41 : ¬ (0 = 0)) => absurd (by decide) c41)
                  refine lv_iconst (v := 0) hx hb dX7_does_242 (by decide) ?_
                  have er : r_X7_does tr p0 p1 p2 = 0 := by rw [r_X7_does]; (try rw [hr1]); (try rw [hr24]); rw [if_neg c2, if_pos c3, if_neg c25, if_neg c26, if_neg c32, if_neg c35, if_neg c38, if_pos c40]
                  have e0 : s_X7_does_Z Z tr p0 p1 p2 = Z := by rw [s_X7_does_Z]; (try rw [hr1]); (try rw [hr24]); rw [if_neg c2, if_pos c3, if_neg c25, if_neg c26, if_neg c32, if_neg c35, if_neg c38, if_pos c40]
                  have e1 : s_X7_does_tr Z tr p0 p1 p2 = tr := by rw [s_X7_does_tr]; (try rw [hr1]); (try rw [hr24]); rw [if_neg c2, if_pos c3, if_neg c25, if_neg c26, if_neg c32, if_neg c35, if_neg c38, if_pos c40]
                  exact k_zret kx hK hP20 hD21 hS19 (u := (Z, tr)) rfl ⟨er.symm, e0.symm, e1.symm⟩ kb0 dX7_does_243
                · skip
                  by_cases c42 : p0 = 6
                  · skip
                    refine lv_tableIn (off := 203) (tgt := 244) hx hb dX7_does_41 (by rw [c42]; decide) (by rw [c42]; decide) (by rw [c42]; rfl) (by decide) ?_
                    refine lv_iload hx hb dX7_does_244 (lv_at hl22 1 rfl) ?_
                    refine lv_if_eq (x := 0) (tgt := 269) hx hb dX7_does_246 (by decide) (fun (c43 : 0 = 0) => ?_) (fun (c43 : ¬ (0 = 0)) => absurd (by decide) c43)
                    refine lv_iconst (v := 0) hx hb dX7_does_269 (by decide) ?_
                    have er : r_X7_does tr p0 p1 p2 = 0 := by rw [r_X7_does]; (try rw [hr1]); (try rw [hr24]); rw [if_neg c2, if_pos c3, if_neg c25, if_neg c26, if_neg c32, if_neg c35, if_neg c38, if_neg c40, if_pos c42]
                    have e0 : s_X7_does_Z Z tr p0 p1 p2 = Z := by rw [s_X7_does_Z]; (try rw [hr1]); (try rw [hr24]); rw [if_neg c2, if_pos c3, if_neg c25, if_neg c26, if_neg c32, if_neg c35, if_neg c38, if_neg c40, if_pos c42]
                    have e1 : s_X7_does_tr Z tr p0 p1 p2 = tr := by rw [s_X7_does_tr]; (try rw [hr1]); (try rw [hr24]); rw [if_neg c2, if_pos c3, if_neg c25, if_neg c26, if_neg c32, if_neg c35, if_neg c38, if_neg c40, if_pos c42]
                    exact k_zret kx hK hP20 hD21 hS19 (u := (Z, tr)) rfl ⟨er.symm, e0.symm, e1.symm⟩ kb0 dX7_does_270
                  · skip
                    by_cases c44 : p0 = 7
                    · skip
                      refine lv_tableIn (off := 230) (tgt := 271) hx hb dX7_does_41 (by rw [c44]; decide) (by rw [c44]; decide) (by rw [c44]; rfl) (by decide) ?_
                      refine lv_iload hx hb dX7_does_271 (lv_at hl22 1 rfl) ?_
                      refine lv_if_eq (x := 0) (tgt := 295) hx hb dX7_does_273 (by decide) (fun (c45 : 0 = 0) => ?_) (fun (c45 : ¬ (0 = 0)) => absurd (by decide) c45)
                      refine lv_iconst (v := 0) hx hb dX7_does_295 (by decide) ?_
                      have er : r_X7_does tr p0 p1 p2 = 0 := by rw [r_X7_does]; (try rw [hr1]); (try rw [hr24]); rw [if_neg c2, if_pos c3, if_neg c25, if_neg c26, if_neg c32, if_neg c35, if_neg c38, if_neg c40, if_neg c42, if_pos c44]
                      have e0 : s_X7_does_Z Z tr p0 p1 p2 = Z := by rw [s_X7_does_Z]; (try rw [hr1]); (try rw [hr24]); rw [if_neg c2, if_pos c3, if_neg c25, if_neg c26, if_neg c32, if_neg c35, if_neg c38, if_neg c40, if_neg c42, if_pos c44]
                      have e1 : s_X7_does_tr Z tr p0 p1 p2 = tr := by rw [s_X7_does_tr]; (try rw [hr1]); (try rw [hr24]); rw [if_neg c2, if_pos c3, if_neg c25, if_neg c26, if_neg c32, if_neg c35, if_neg c38, if_neg c40, if_neg c42, if_pos c44]
                      exact k_zret kx hK hP20 hD21 hS19 (u := (Z, tr)) rfl ⟨er.symm, e0.symm, e1.symm⟩ kb0 dX7_does_296
                    · skip
                      have nc26 := lv_neT (a := 1) c26 (by decide)
                      have nc32 := lv_neT (a := 2) c32 (by decide)
                      have nc35 := lv_neT (a := 3) c35 (by decide)
                      have nc38 := lv_neT (a := 4) c38 (by decide)
                      have nc40 := lv_neT (a := 5) c40 (by decide)
                      have nc42 := lv_neT (a := 6) c42 (by decide)
                      have nc44 := lv_neT (a := 7) c44 (by decide)
                      refine lv_tableOut (tgt := 297) hx hb dX7_does_41 (by omega) (by decide) ?_
                      refine lv_iconst (v := 0) hx hb dX7_does_297 (by decide) ?_
                      have er : r_X7_does tr p0 p1 p2 = 0 := by rw [r_X7_does]; (try rw [hr1]); (try rw [hr24]); rw [if_neg c2, if_pos c3, if_neg c25, if_neg c26, if_neg c32, if_neg c35, if_neg c38, if_neg c40, if_neg c42, if_neg c44]
                      have e0 : s_X7_does_Z Z tr p0 p1 p2 = Z := by rw [s_X7_does_Z]; (try rw [hr1]); (try rw [hr24]); rw [if_neg c2, if_pos c3, if_neg c25, if_neg c26, if_neg c32, if_neg c35, if_neg c38, if_neg c40, if_neg c42, if_neg c44]
                      have e1 : s_X7_does_tr Z tr p0 p1 p2 = tr := by rw [s_X7_does_tr]; (try rw [hr1]); (try rw [hr24]); rw [if_neg c2, if_pos c3, if_neg c25, if_neg c26, if_neg c32, if_neg c35, if_neg c38, if_neg c40, if_neg c42, if_neg c44]
                      exact k_zret kx hK hP20 hD21 hS19 (u := (Z, tr)) rfl ⟨er.symm, e0.symm, e1.symm⟩ kb0 dX7_does_298
      · skip
        refine lv_iconst (v := 1) hx hb dX7_does_33 (by decide) ?_
        refine lv_goto (tgt := 38) hx hb dX7_does_34 (by decide) ?_
        refine lv_istore (lv' := [(6, .int 1), (5, .int 0), (4, .int ((10 * p1) + p2)), (0, .ref h0), (1, .int p0), (2, .int p1), (3, .int p2)]) hx hb dX7_does_38 hl5 (by decide) rfl (fun ls35 hl35 => ?_)
        refine lv_iload_n hx hb dX7_does_40 rfl (lv_at hl35 4 rfl) ?_
        by_cases c46 : p0 = 1
        · skip
          refine lv_tableIn (off := 43) (tgt := 84) hx hb dX7_does_41 (by rw [c46]; decide) (by rw [c46]; decide) (by rw [c46]; rfl) (by decide) ?_
          refine lv_iload hx hb dX7_does_84 (lv_at hl35 2 rfl) ?_
          refine lv_i2l (v := ((10 * p1) + p2).toInt64) hx hb dX7_does_86 rfl ?_
          refine lv_lconst (v := 1) hx hb dX7_does_87 (by decide) ?_
          refine lv_ldc2 (v := 30) hx hb hown (ht _ q_851) dX7_does_88 ?_
          refine k_calli (kRunS (As := [.long (((10 * p1) + p2).toInt64), .long 1, .long 30]) (rest := []) kx (c_X7_in l G (((10 * p1) + p2).toInt64) 1 30) q_740 q_738 q_36 q_739 nX7_in ⟨Nat.le_of_ble_eq_true rfl, Nat.le_of_ble_eq_true rfl⟩ hK hP20 hD21 (kCtx_nil _) rfl hl35.1 (Nat.le_of_ble_eq_true rfl) dX7_does_91 ⟨Nat.zero_le _, Nat.zero_le _⟩) hP20 hD21 hS19 hA (kCtx_nil _) (fun _ => rfl) (fun r47 _ H36 locs36 hw hP36 hD36 hS36 => ?_)
          have hr47 : r_X7_in (((10 * p1) + p2).toInt64) 1 30 = r47 := (show r47 = r_X7_in (((10 * p1) + p2).toInt64) 1 30 from hw).symm
          have hP37 : va_P G.1 vwCl ([(h0, .inr (7, cM Z q1 q2 q3 q4 q5 q6 q7 q8 q9 q10 q11 sd)), (q5, .inl (G.2.1, 55, .inl tr))]) H36 := hP36
          have hD38 : va_D A ([(h0, .inr (7, cM Z q1 q2 q3 q4 q5 q6 q7 q8 q9 q10 q11 sd)), (q5, .inl (G.2.1, 55, .inl tr))]) := hD36
          refine lv_if_ne (x := r47) (tgt := 99) hx hb dX7_does_94 (by decide) (fun (c48 : ¬ (r47 = 0)) => ?_) (fun (c48 : r47 = 0) => ?_)
          · skip
            refine lv_aload_n hx hb dX7_does_99 rfl (lv_at hl35 3 rfl) ?_
            refine lv_aload_n hx hb dX7_does_100 rfl (lv_at hl35 3 rfl) ?_
            refine va_get (ci := 7) (v := .ref q5) (C := RX7) (T := TX7) (N := 22) hx hb ht inX7 hown hK.1 hP37 0 rfl rfl 8 (by decide) (ht _ q_674) (fun _ h9 => h9) rfl dX7_does_101 ?_
            refine lv_iload hx hb dX7_does_104 (lv_at hl35 2 rfl) ?_
            refine k_callv (kRunV (As := [.ref q5, .int ((10 * p1) + p2)]) (rest := []) kx (c_X7_goFor l G Z sd h0 q1 q2 q3 q4 q5 q6 q7 q8 q9 q10 q11 tr q5 ((10 * p1) + p2)) q_778 q_775 q_36 q_777 q_17 nX7_goFor ⟨Nat.le_of_ble_eq_true rfl, Nat.le_of_ble_eq_true rfl⟩ hK hP37 hD38 (kCtx_all _) 0 7 rfl rfl rfl rfl hl35.1 (Nat.le_of_ble_eq_true rfl) dX7_does_106 ⟨Nat.zero_le _, Nat.zero_le _⟩) hP37 hD38 hS36 hA (kCtx_all _) (fun _ => rfl) (fun u H39 locs39 hw hP39 hD39 hS39 => ?_)
            obtain ⟨F50, F51⟩ := u
            obtain ⟨hF50, hF51⟩ := hw
            have hF50 : s_X7_goFor_Z Z tr ((10 * p1) + p2) = F50 := (show F50 = s_X7_goFor_Z Z tr ((10 * p1) + p2) from hF50).symm
            have hF51 : s_X7_goFor_f Z tr ((10 * p1) + p2) = F51 := (show F51 = s_X7_goFor_f Z tr ((10 * p1) + p2) from hF51).symm
            have hP40 : va_P G.1 vwCl ([(h0, .inr (7, cM F50 q1 q2 q3 q4 q5 q6 q7 q8 q9 q10 q11 sd)), (q5, .inl (G.2.1, 55, .inl F51))]) H39 := hP39
            have hD41 : va_D A ([(h0, .inr (7, cM F50 q1 q2 q3 q4 q5 q6 q7 q8 q9 q10 q11 sd)), (q5, .inl (G.2.1, 55, .inl F51))]) := hD39
            refine lv_iconst (v := 1) hx hb dX7_does_109 (by decide) ?_
            have er : r_X7_does tr p0 p1 p2 = 1 := by rw [r_X7_does]; (try rw [hr1]); (try rw [hr24]); (try rw [hr47]); (try rw [hF50]); (try rw [hF51]); rw [if_neg c2, if_pos c3, if_pos c25, if_pos c46, if_neg c48]
            have e0 : s_X7_does_Z Z tr p0 p1 p2 = F50 := by rw [s_X7_does_Z]; (try rw [hr1]); (try rw [hr24]); (try rw [hr47]); (try rw [hF50]); (try rw [hF51]); rw [if_neg c2, if_pos c3, if_pos c25, if_pos c46, if_neg c48]
            have e1 : s_X7_does_tr Z tr p0 p1 p2 = F51 := by rw [s_X7_does_tr]; (try rw [hr1]); (try rw [hr24]); (try rw [hr47]); (try rw [hF50]); (try rw [hF51]); rw [if_neg c2, if_pos c3, if_pos c25, if_pos c46, if_neg c48]
            exact k_zret kx hK hP40 hD41 hS39 (u := (F50, F51)) rfl ⟨er.symm, e0.symm, e1.symm⟩ kb1 dX7_does_110
          · skip
            refine lv_iconst (v := 0) hx hb dX7_does_97 (by decide) ?_
            have er : r_X7_does tr p0 p1 p2 = 0 := by rw [r_X7_does]; (try rw [hr1]); (try rw [hr24]); (try rw [hr47]); rw [if_neg c2, if_pos c3, if_pos c25, if_pos c46, if_pos c48]
            have e0 : s_X7_does_Z Z tr p0 p1 p2 = Z := by rw [s_X7_does_Z]; (try rw [hr1]); (try rw [hr24]); (try rw [hr47]); rw [if_neg c2, if_pos c3, if_pos c25, if_pos c46, if_pos c48]
            have e1 : s_X7_does_tr Z tr p0 p1 p2 = tr := by rw [s_X7_does_tr]; (try rw [hr1]); (try rw [hr24]); (try rw [hr47]); rw [if_neg c2, if_pos c3, if_pos c25, if_pos c46, if_pos c48]
            exact k_zret kx hK hP37 hD38 hS36 (u := (Z, tr)) rfl ⟨er.symm, e0.symm, e1.symm⟩ kb0 dX7_does_98
        · skip
          by_cases c52 : p0 = 2
          · skip
            refine lv_tableIn (off := 70) (tgt := 111) hx hb dX7_does_41 (by rw [c52]; decide) (by rw [c52]; decide) (by rw [c52]; rfl) (by decide) ?_
            refine lv_aload_n hx hb dX7_does_111 rfl (lv_at hl35 3 rfl) ?_
            refine va_get (ci := 7) (v := .ref q5) (C := RX7) (T := TX7) (N := 22) hx hb ht inX7 hown hK.1 hP20 0 rfl rfl 8 (by decide) (ht _ q_674) (fun _ h9 => h9) rfl dX7_does_112 ?_
            refine lv_iload hx hb dX7_does_115 (lv_at hl35 0 rfl) ?_
            refine lv_if_eq (x := 1) (tgt := 130) hx hb dX7_does_117 (by decide) (fun (c53 : 1 = 0) => absurd c53 (by decide)) (fun (c53 : ¬ (1 = 0)) => ?_)
            refine lv_bipush (v := 16) hx hb dX7_does_120 (by decide) ?_
            refine lv_iload_n hx hb dX7_does_122 rfl (lv_at hl35 6 rfl) ?_
            by_cases c54 : p2 = 0
            · skip
              refine k_top (y := 0) c54 ?_
              refine lv_imul hx hb dX7_does_123 ?_
              refine k_top (y := 0) (by decide +kernel) ?_
              refine lv_bipush (v := 7) hx hb dX7_does_124 (by decide) ?_
              refine lv_iadd hx hb dX7_does_126 ?_
              refine k_top (y := 7) (by decide +kernel) ?_
              refine lv_goto (tgt := 132) hx hb dX7_does_127 (by decide) ?_
              refine lv_dup2_11 hx hb dX7_does_132 rfl rfl ?_
              refine k_iald (v := (tr 7)) kx hK hP20 1 rfl 7 rfl (by decide) (by decide) rfl dX7_does_133 ?_
              refine lv_iload hx hb dX7_does_134 (lv_at hl35 0 rfl) ?_
              refine lv_if_eq (x := 1) (tgt := 143) hx hb dX7_does_136 (by decide) (fun (c55 : 1 = 0) => absurd c55 (by decide)) (fun (c55 : ¬ (1 = 0)) => ?_)
              refine lv_iconst (v := 1) hx hb dX7_does_139 (by decide) ?_
              refine lv_goto (tgt := 144) hx hb dX7_does_140 (by decide) ?_
              refine lv_ixor hx hb dX7_does_144 ?_
              refine k_iast kx hK hP20 hD21 hS19 1 rfl 7 rfl (by decide) (by decide) dX7_does_145 (fun H42 locs42 hP42 hD42 hS42 => ?_)
              have hP43 : va_P G.1 vwCl ([(h0, .inr (7, cM Z q1 q2 q3 q4 q5 q6 q7 q8 q9 q10 q11 sd)), (q5, .inl (G.2.1, 55, .inl (upd tr 7 ((tr 7) ^^^ 1))))]) H42 := hP42
              have hD44 : va_D A ([(h0, .inr (7, cM Z q1 q2 q3 q4 q5 q6 q7 q8 q9 q10 q11 sd)), (q5, .inl (G.2.1, 55, .inl (upd tr 7 ((tr 7) ^^^ 1))))]) := hD42
              refine lv_iload hx hb dX7_does_146 (lv_at hl35 0 rfl) ?_
              have er : r_X7_does tr p0 p1 p2 = 1 := by rw [r_X7_does]; (try rw [hr1]); (try rw [hr24]); rw [if_neg c2, if_pos c3, if_pos c25, if_neg c46, if_pos c52, if_pos c54]
              have e0 : s_X7_does_Z Z tr p0 p1 p2 = Z := by rw [s_X7_does_Z]; (try rw [hr1]); (try rw [hr24]); rw [if_neg c2, if_pos c3, if_pos c25, if_neg c46, if_pos c52, if_pos c54]
              have e1 : s_X7_does_tr Z tr p0 p1 p2 = upd tr 7 ((tr 7) ^^^ 1) := by rw [s_X7_does_tr]; (try rw [hr1]); (try rw [hr24]); rw [if_neg c2, if_pos c3, if_pos c25, if_neg c46, if_pos c52, if_pos c54]
              exact k_zret kx hK hP43 hD44 hS42 (u := (Z, upd tr 7 ((tr 7) ^^^ 1))) rfl ⟨er.symm, e0.symm, e1.symm⟩ kb1 dX7_does_148
            · skip
              refine k_top (y := 1) (k01e hr24 c25 c54) ?_
              refine lv_imul hx hb dX7_does_123 ?_
              refine k_top (y := 16) (by decide +kernel) ?_
              refine lv_bipush (v := 7) hx hb dX7_does_124 (by decide) ?_
              refine lv_iadd hx hb dX7_does_126 ?_
              refine k_top (y := 23) (by decide +kernel) ?_
              refine lv_goto (tgt := 132) hx hb dX7_does_127 (by decide) ?_
              refine lv_dup2_11 hx hb dX7_does_132 rfl rfl ?_
              refine k_iald (v := (tr 23)) kx hK hP20 1 rfl 23 rfl (by decide) (by decide) rfl dX7_does_133 ?_
              refine lv_iload hx hb dX7_does_134 (lv_at hl35 0 rfl) ?_
              refine lv_if_eq (x := 1) (tgt := 143) hx hb dX7_does_136 (by decide) (fun (c56 : 1 = 0) => absurd c56 (by decide)) (fun (c56 : ¬ (1 = 0)) => ?_)
              refine lv_iconst (v := 1) hx hb dX7_does_139 (by decide) ?_
              refine lv_goto (tgt := 144) hx hb dX7_does_140 (by decide) ?_
              refine lv_ixor hx hb dX7_does_144 ?_
              refine k_iast kx hK hP20 hD21 hS19 1 rfl 23 rfl (by decide) (by decide) dX7_does_145 (fun H45 locs45 hP45 hD45 hS45 => ?_)
              have hP46 : va_P G.1 vwCl ([(h0, .inr (7, cM Z q1 q2 q3 q4 q5 q6 q7 q8 q9 q10 q11 sd)), (q5, .inl (G.2.1, 55, .inl (upd tr 23 ((tr 23) ^^^ 1))))]) H45 := hP45
              have hD47 : va_D A ([(h0, .inr (7, cM Z q1 q2 q3 q4 q5 q6 q7 q8 q9 q10 q11 sd)), (q5, .inl (G.2.1, 55, .inl (upd tr 23 ((tr 23) ^^^ 1))))]) := hD45
              refine lv_iload hx hb dX7_does_146 (lv_at hl35 0 rfl) ?_
              have er : r_X7_does tr p0 p1 p2 = 1 := by rw [r_X7_does]; (try rw [hr1]); (try rw [hr24]); rw [if_neg c2, if_pos c3, if_pos c25, if_neg c46, if_pos c52, if_neg c54]
              have e0 : s_X7_does_Z Z tr p0 p1 p2 = Z := by rw [s_X7_does_Z]; (try rw [hr1]); (try rw [hr24]); rw [if_neg c2, if_pos c3, if_pos c25, if_neg c46, if_pos c52, if_neg c54]
              have e1 : s_X7_does_tr Z tr p0 p1 p2 = upd tr 23 ((tr 23) ^^^ 1) := by rw [s_X7_does_tr]; (try rw [hr1]); (try rw [hr24]); rw [if_neg c2, if_pos c3, if_pos c25, if_neg c46, if_pos c52, if_neg c54]
              exact k_zret kx hK hP46 hD47 hS45 (u := (Z, upd tr 23 ((tr 23) ^^^ 1))) rfl ⟨er.symm, e0.symm, e1.symm⟩ kb1 dX7_does_148
          · skip
            by_cases c57 : p0 = 3
            · skip
              refine lv_tableIn (off := 108) (tgt := 149) hx hb dX7_does_41 (by rw [c57]; decide) (by rw [c57]; decide) (by rw [c57]; rfl) (by decide) ?_
              refine lv_aload_n hx hb dX7_does_149 rfl (lv_at hl35 3 rfl) ?_
              refine va_get (ci := 7) (v := .ref q5) (C := RX7) (T := TX7) (N := 22) hx hb ht inX7 hown hK.1 hP20 0 rfl rfl 8 (by decide) (ht _ q_674) (fun _ h9 => h9) rfl dX7_does_150 ?_
              refine lv_iload hx hb dX7_does_153 (lv_at hl35 0 rfl) ?_
              refine lv_if_eq (x := 1) (tgt := 165) hx hb dX7_does_155 (by decide) (fun (c58 : 1 = 0) => absurd c58 (by decide)) (fun (c58 : ¬ (1 = 0)) => ?_)
              refine lv_bipush (v := 32) hx hb dX7_does_158 (by decide) ?_
              refine lv_iload_n hx hb dX7_does_160 rfl (lv_at hl35 6 rfl) ?_
              by_cases c59 : p2 = 0
              · skip
                refine k_top (y := 0) c59 ?_
                refine lv_iadd hx hb dX7_does_161 ?_
                refine k_top (y := 32) (by decide +kernel) ?_
                refine lv_goto (tgt := 167) hx hb dX7_does_162 (by decide) ?_
                refine lv_dup2_11 hx hb dX7_does_167 rfl rfl ?_
                refine k_iald (v := (tr 32)) kx hK hP20 1 rfl 32 rfl (by decide) (by decide) rfl dX7_does_168 ?_
                refine lv_iload hx hb dX7_does_169 (lv_at hl35 0 rfl) ?_
                refine lv_if_eq (x := 1) (tgt := 178) hx hb dX7_does_171 (by decide) (fun (c60 : 1 = 0) => absurd c60 (by decide)) (fun (c60 : ¬ (1 = 0)) => ?_)
                refine lv_iconst (v := 1) hx hb dX7_does_174 (by decide) ?_
                refine lv_goto (tgt := 179) hx hb dX7_does_175 (by decide) ?_
                refine lv_ixor hx hb dX7_does_179 ?_
                refine k_iast kx hK hP20 hD21 hS19 1 rfl 32 rfl (by decide) (by decide) dX7_does_180 (fun H48 locs48 hP48 hD48 hS48 => ?_)
                have hP49 : va_P G.1 vwCl ([(h0, .inr (7, cM Z q1 q2 q3 q4 q5 q6 q7 q8 q9 q10 q11 sd)), (q5, .inl (G.2.1, 55, .inl (upd tr 32 ((tr 32) ^^^ 1))))]) H48 := hP48
                have hD50 : va_D A ([(h0, .inr (7, cM Z q1 q2 q3 q4 q5 q6 q7 q8 q9 q10 q11 sd)), (q5, .inl (G.2.1, 55, .inl (upd tr 32 ((tr 32) ^^^ 1))))]) := hD48
                refine lv_iload hx hb dX7_does_181 (lv_at hl35 0 rfl) ?_
                have er : r_X7_does tr p0 p1 p2 = 1 := by rw [r_X7_does]; (try rw [hr1]); (try rw [hr24]); rw [if_neg c2, if_pos c3, if_pos c25, if_neg c46, if_neg c52, if_pos c57, if_pos c59]
                have e0 : s_X7_does_Z Z tr p0 p1 p2 = Z := by rw [s_X7_does_Z]; (try rw [hr1]); (try rw [hr24]); rw [if_neg c2, if_pos c3, if_pos c25, if_neg c46, if_neg c52, if_pos c57, if_pos c59]
                have e1 : s_X7_does_tr Z tr p0 p1 p2 = upd tr 32 ((tr 32) ^^^ 1) := by rw [s_X7_does_tr]; (try rw [hr1]); (try rw [hr24]); rw [if_neg c2, if_pos c3, if_pos c25, if_neg c46, if_neg c52, if_pos c57, if_pos c59]
                exact k_zret kx hK hP49 hD50 hS48 (u := (Z, upd tr 32 ((tr 32) ^^^ 1))) rfl ⟨er.symm, e0.symm, e1.symm⟩ kb1 dX7_does_183
              · skip
                refine k_top (y := 1) (k01e hr24 c25 c59) ?_
                refine lv_iadd hx hb dX7_does_161 ?_
                refine k_top (y := 33) (by decide +kernel) ?_
                refine lv_goto (tgt := 167) hx hb dX7_does_162 (by decide) ?_
                refine lv_dup2_11 hx hb dX7_does_167 rfl rfl ?_
                refine k_iald (v := (tr 33)) kx hK hP20 1 rfl 33 rfl (by decide) (by decide) rfl dX7_does_168 ?_
                refine lv_iload hx hb dX7_does_169 (lv_at hl35 0 rfl) ?_
                refine lv_if_eq (x := 1) (tgt := 178) hx hb dX7_does_171 (by decide) (fun (c61 : 1 = 0) => absurd c61 (by decide)) (fun (c61 : ¬ (1 = 0)) => ?_)
                refine lv_iconst (v := 1) hx hb dX7_does_174 (by decide) ?_
                refine lv_goto (tgt := 179) hx hb dX7_does_175 (by decide) ?_
                refine lv_ixor hx hb dX7_does_179 ?_
                refine k_iast kx hK hP20 hD21 hS19 1 rfl 33 rfl (by decide) (by decide) dX7_does_180 (fun H51 locs51 hP51 hD51 hS51 => ?_)
                have hP52 : va_P G.1 vwCl ([(h0, .inr (7, cM Z q1 q2 q3 q4 q5 q6 q7 q8 q9 q10 q11 sd)), (q5, .inl (G.2.1, 55, .inl (upd tr 33 ((tr 33) ^^^ 1))))]) H51 := hP51
                have hD53 : va_D A ([(h0, .inr (7, cM Z q1 q2 q3 q4 q5 q6 q7 q8 q9 q10 q11 sd)), (q5, .inl (G.2.1, 55, .inl (upd tr 33 ((tr 33) ^^^ 1))))]) := hD51
                refine lv_iload hx hb dX7_does_181 (lv_at hl35 0 rfl) ?_
                have er : r_X7_does tr p0 p1 p2 = 1 := by rw [r_X7_does]; (try rw [hr1]); (try rw [hr24]); rw [if_neg c2, if_pos c3, if_pos c25, if_neg c46, if_neg c52, if_pos c57, if_neg c59]
                have e0 : s_X7_does_Z Z tr p0 p1 p2 = Z := by rw [s_X7_does_Z]; (try rw [hr1]); (try rw [hr24]); rw [if_neg c2, if_pos c3, if_pos c25, if_neg c46, if_neg c52, if_pos c57, if_neg c59]
                have e1 : s_X7_does_tr Z tr p0 p1 p2 = upd tr 33 ((tr 33) ^^^ 1) := by rw [s_X7_does_tr]; (try rw [hr1]); (try rw [hr24]); rw [if_neg c2, if_pos c3, if_pos c25, if_neg c46, if_neg c52, if_pos c57, if_neg c59]
                exact k_zret kx hK hP52 hD53 hS51 (u := (Z, upd tr 33 ((tr 33) ^^^ 1))) rfl ⟨er.symm, e0.symm, e1.symm⟩ kb1 dX7_does_183
            · skip
              by_cases c62 : p0 = 4
              · skip
                refine lv_tableIn (off := 143) (tgt := 184) hx hb dX7_does_41 (by rw [c62]; decide) (by rw [c62]; decide) (by rw [c62]; rfl) (by decide) ?_
                refine lv_iload hx hb dX7_does_184 (lv_at hl35 0 rfl) ?_
                refine lv_if_eq (x := 1) (tgt := 203) hx hb dX7_does_186 (by decide) (fun (c63 : 1 = 0) => absurd c63 (by decide)) (fun (c63 : ¬ (1 = 0)) => ?_)
                refine lv_aload_n hx hb dX7_does_189 rfl (lv_at hl35 3 rfl) ?_
                refine va_get (ci := 7) (v := .ref q5) (C := RX7) (T := TX7) (N := 22) hx hb ht inX7 hown hK.1 hP20 0 rfl rfl 8 (by decide) (ht _ q_674) (fun _ h9 => h9) rfl dX7_does_190 ?_
                refine lv_bipush (v := 16) hx hb dX7_does_193 (by decide) ?_
                refine lv_iload_n hx hb dX7_does_195 rfl (lv_at hl35 6 rfl) ?_
                by_cases c64 : p2 = 0
                · skip
                  refine k_top (y := 0) c64 ?_
                  refine lv_imul hx hb dX7_does_196 ?_
                  refine k_top (y := 0) (by decide +kernel) ?_
                  refine k_calli (kRunS (As := [.ref q5, .int 0]) (rest := []) kx (c_X7_mayPoll_0 l G tr q5) q_885 q_883 q_36 q_884 nX7_mayPoll ⟨Nat.le_of_ble_eq_true rfl, Nat.le_of_ble_eq_true rfl⟩ hK hP20 hD21 (kCtx_places _ _ [1] rfl rfl) rfl hl35.1 (Nat.le_of_ble_eq_true rfl) dX7_does_197 ⟨Nat.zero_le _, Nat.zero_le _⟩) hP20 hD21 hS19 hA (kCtx_places _ _ [1] rfl rfl) (fun _ => rfl) (fun r65 _ H54 locs54 hw hP54 hD54 hS54 => ?_)
                  have hr65 : r_X7_mayPoll_0 tr = r65 := (show r65 = r_X7_mayPoll_0 tr from hw).symm
                  have hP55 : va_P G.1 vwCl ([(h0, .inr (7, cM Z q1 q2 q3 q4 q5 q6 q7 q8 q9 q10 q11 sd)), (q5, .inl (G.2.1, 55, .inl tr))]) H54 := hP54
                  have hD56 : va_D A ([(h0, .inr (7, cM Z q1 q2 q3 q4 q5 q6 q7 q8 q9 q10 q11 sd)), (q5, .inl (G.2.1, 55, .inl tr))]) := hD54
                  refine lv_if_ne (x := r65) (tgt := 205) hx hb dX7_does_200 (by decide) (fun (c66 : ¬ (r65 = 0)) => ?_) (fun (c66 : r65 = 0) => ?_)
                  · skip
                    refine lv_aload_n hx hb dX7_does_205 rfl (lv_at hl35 3 rfl) ?_
                    refine va_get (ci := 7) (v := .ref q5) (C := RX7) (T := TX7) (N := 22) hx hb ht inX7 hown hK.1 hP55 0 rfl rfl 8 (by decide) (ht _ q_674) (fun _ h9 => h9) rfl dX7_does_206 ?_
                    refine lv_bipush (v := 16) hx hb dX7_does_209 (by decide) ?_
                    refine lv_iload_n hx hb dX7_does_211 rfl (lv_at hl35 6 rfl) ?_
                    refine k_top (y := 0) c64 ?_
                    refine lv_imul hx hb dX7_does_212 ?_
                    refine k_top (y := 0) (by decide +kernel) ?_
                    refine k_callv (kRunS (As := [.ref q5, .int 0]) (rest := []) kx (c_X7_pollOn_0 l G tr q5) q_888 q_886 q_36 q_887 nX7_pollOn ⟨Nat.le_of_ble_eq_true rfl, Nat.le_of_ble_eq_true rfl⟩ hK hP55 hD56 (kCtx_places _ _ [1] rfl rfl) rfl hl35.1 (Nat.le_of_ble_eq_true rfl) dX7_does_213 ⟨Nat.zero_le _, Nat.zero_le _⟩) hP55 hD56 hS54 hA (kCtx_places _ _ [1] rfl rfl) (fun _ => rfl) (fun _ H57 locs57 hw hP57 hD57 hS57 => ?_)
                    have hP58 : va_P G.1 vwCl ([(h0, .inr (7, cM Z q1 q2 q3 q4 q5 q6 q7 q8 q9 q10 q11 sd)), (q5, .inl (G.2.1, 55, .inl (upd (upd (upd tr 6 1) 8 0) 9 0)))]) H57 := hP57
                    have hD59 : va_D A ([(h0, .inr (7, cM Z q1 q2 q3 q4 q5 q6 q7 q8 q9 q10 q11 sd)), (q5, .inl (G.2.1, 55, .inl (upd (upd (upd tr 6 1) 8 0) 9 0)))]) := hD57
                    refine lv_iconst (v := 1) hx hb dX7_does_216 (by decide) ?_
                    have er : r_X7_does tr p0 p1 p2 = 1 := by rw [r_X7_does]; (try rw [hr1]); (try rw [hr24]); (try rw [hr65]); rw [if_neg c2, if_pos c3, if_pos c25, if_neg c46, if_neg c52, if_neg c57, if_pos c62, if_pos c64, if_neg c66]
                    have e0 : s_X7_does_Z Z tr p0 p1 p2 = Z := by rw [s_X7_does_Z]; (try rw [hr1]); (try rw [hr24]); (try rw [hr65]); rw [if_neg c2, if_pos c3, if_pos c25, if_neg c46, if_neg c52, if_neg c57, if_pos c62, if_pos c64, if_neg c66]
                    have e1 : s_X7_does_tr Z tr p0 p1 p2 = upd (upd (upd tr 6 1) 8 0) 9 0 := by rw [s_X7_does_tr]; (try rw [hr1]); (try rw [hr24]); (try rw [hr65]); rw [if_neg c2, if_pos c3, if_pos c25, if_neg c46, if_neg c52, if_neg c57, if_pos c62, if_pos c64, if_neg c66]
                    exact k_zret kx hK hP58 hD59 hS57 (u := (Z, upd (upd (upd tr 6 1) 8 0) 9 0)) rfl ⟨er.symm, e0.symm, e1.symm⟩ kb1 dX7_does_217
                  · skip
                    refine lv_iconst (v := 0) hx hb dX7_does_203 (by decide) ?_
                    have er : r_X7_does tr p0 p1 p2 = 0 := by rw [r_X7_does]; (try rw [hr1]); (try rw [hr24]); (try rw [hr65]); rw [if_neg c2, if_pos c3, if_pos c25, if_neg c46, if_neg c52, if_neg c57, if_pos c62, if_pos c64, if_pos c66]
                    have e0 : s_X7_does_Z Z tr p0 p1 p2 = Z := by rw [s_X7_does_Z]; (try rw [hr1]); (try rw [hr24]); (try rw [hr65]); rw [if_neg c2, if_pos c3, if_pos c25, if_neg c46, if_neg c52, if_neg c57, if_pos c62, if_pos c64, if_pos c66]
                    have e1 : s_X7_does_tr Z tr p0 p1 p2 = tr := by rw [s_X7_does_tr]; (try rw [hr1]); (try rw [hr24]); (try rw [hr65]); rw [if_neg c2, if_pos c3, if_pos c25, if_neg c46, if_neg c52, if_neg c57, if_pos c62, if_pos c64, if_pos c66]
                    exact k_zret kx hK hP55 hD56 hS54 (u := (Z, tr)) rfl ⟨er.symm, e0.symm, e1.symm⟩ kb0 dX7_does_204
                · skip
                  refine k_top (y := 1) (k01e hr24 c25 c64) ?_
                  refine lv_imul hx hb dX7_does_196 ?_
                  refine k_top (y := 16) (by decide +kernel) ?_
                  refine k_calli (kRunS (As := [.ref q5, .int 16]) (rest := []) kx (c_X7_mayPoll_16 l G tr q5) q_885 q_883 q_36 q_884 nX7_mayPoll ⟨Nat.le_of_ble_eq_true rfl, Nat.le_of_ble_eq_true rfl⟩ hK hP20 hD21 (kCtx_places _ _ [1] rfl rfl) rfl hl35.1 (Nat.le_of_ble_eq_true rfl) dX7_does_197 ⟨Nat.zero_le _, Nat.zero_le _⟩) hP20 hD21 hS19 hA (kCtx_places _ _ [1] rfl rfl) (fun _ => rfl) (fun r69 _ H60 locs60 hw hP60 hD60 hS60 => ?_)
                  have hr69 : r_X7_mayPoll_16 tr = r69 := (show r69 = r_X7_mayPoll_16 tr from hw).symm
                  have hP61 : va_P G.1 vwCl ([(h0, .inr (7, cM Z q1 q2 q3 q4 q5 q6 q7 q8 q9 q10 q11 sd)), (q5, .inl (G.2.1, 55, .inl tr))]) H60 := hP60
                  have hD62 : va_D A ([(h0, .inr (7, cM Z q1 q2 q3 q4 q5 q6 q7 q8 q9 q10 q11 sd)), (q5, .inl (G.2.1, 55, .inl tr))]) := hD60
                  refine lv_if_ne (x := r69) (tgt := 205) hx hb dX7_does_200 (by decide) (fun (c70 : ¬ (r69 = 0)) => ?_) (fun (c70 : r69 = 0) => ?_)
                  · skip
                    refine lv_aload_n hx hb dX7_does_205 rfl (lv_at hl35 3 rfl) ?_
                    refine va_get (ci := 7) (v := .ref q5) (C := RX7) (T := TX7) (N := 22) hx hb ht inX7 hown hK.1 hP61 0 rfl rfl 8 (by decide) (ht _ q_674) (fun _ h9 => h9) rfl dX7_does_206 ?_
                    refine lv_bipush (v := 16) hx hb dX7_does_209 (by decide) ?_
                    refine lv_iload_n hx hb dX7_does_211 rfl (lv_at hl35 6 rfl) ?_
                    refine k_top (y := 1) (k01e hr24 c25 c64) ?_
                    refine lv_imul hx hb dX7_does_212 ?_
                    refine k_top (y := 16) (by decide +kernel) ?_
                    refine k_callv (kRunS (As := [.ref q5, .int 16]) (rest := []) kx (c_X7_pollOn_16 l G tr q5) q_888 q_886 q_36 q_887 nX7_pollOn ⟨Nat.le_of_ble_eq_true rfl, Nat.le_of_ble_eq_true rfl⟩ hK hP61 hD62 (kCtx_places _ _ [1] rfl rfl) rfl hl35.1 (Nat.le_of_ble_eq_true rfl) dX7_does_213 ⟨Nat.zero_le _, Nat.zero_le _⟩) hP61 hD62 hS60 hA (kCtx_places _ _ [1] rfl rfl) (fun _ => rfl) (fun _ H63 locs63 hw hP63 hD63 hS63 => ?_)
                    have hP64 : va_P G.1 vwCl ([(h0, .inr (7, cM Z q1 q2 q3 q4 q5 q6 q7 q8 q9 q10 q11 sd)), (q5, .inl (G.2.1, 55, .inl (upd (upd (upd tr 22 1) 24 0) 25 0)))]) H63 := hP63
                    have hD65 : va_D A ([(h0, .inr (7, cM Z q1 q2 q3 q4 q5 q6 q7 q8 q9 q10 q11 sd)), (q5, .inl (G.2.1, 55, .inl (upd (upd (upd tr 22 1) 24 0) 25 0)))]) := hD63
                    refine lv_iconst (v := 1) hx hb dX7_does_216 (by decide) ?_
                    have er : r_X7_does tr p0 p1 p2 = 1 := by rw [r_X7_does]; (try rw [hr1]); (try rw [hr24]); (try rw [hr69]); rw [if_neg c2, if_pos c3, if_pos c25, if_neg c46, if_neg c52, if_neg c57, if_pos c62, if_neg c64, if_neg c70]
                    have e0 : s_X7_does_Z Z tr p0 p1 p2 = Z := by rw [s_X7_does_Z]; (try rw [hr1]); (try rw [hr24]); (try rw [hr69]); rw [if_neg c2, if_pos c3, if_pos c25, if_neg c46, if_neg c52, if_neg c57, if_pos c62, if_neg c64, if_neg c70]
                    have e1 : s_X7_does_tr Z tr p0 p1 p2 = upd (upd (upd tr 22 1) 24 0) 25 0 := by rw [s_X7_does_tr]; (try rw [hr1]); (try rw [hr24]); (try rw [hr69]); rw [if_neg c2, if_pos c3, if_pos c25, if_neg c46, if_neg c52, if_neg c57, if_pos c62, if_neg c64, if_neg c70]
                    exact k_zret kx hK hP64 hD65 hS63 (u := (Z, upd (upd (upd tr 22 1) 24 0) 25 0)) rfl ⟨er.symm, e0.symm, e1.symm⟩ kb1 dX7_does_217
                  · skip
                    refine lv_iconst (v := 0) hx hb dX7_does_203 (by decide) ?_
                    have er : r_X7_does tr p0 p1 p2 = 0 := by rw [r_X7_does]; (try rw [hr1]); (try rw [hr24]); (try rw [hr69]); rw [if_neg c2, if_pos c3, if_pos c25, if_neg c46, if_neg c52, if_neg c57, if_pos c62, if_neg c64, if_pos c70]
                    have e0 : s_X7_does_Z Z tr p0 p1 p2 = Z := by rw [s_X7_does_Z]; (try rw [hr1]); (try rw [hr24]); (try rw [hr69]); rw [if_neg c2, if_pos c3, if_pos c25, if_neg c46, if_neg c52, if_neg c57, if_pos c62, if_neg c64, if_pos c70]
                    have e1 : s_X7_does_tr Z tr p0 p1 p2 = tr := by rw [s_X7_does_tr]; (try rw [hr1]); (try rw [hr24]); (try rw [hr69]); rw [if_neg c2, if_pos c3, if_pos c25, if_neg c46, if_neg c52, if_neg c57, if_pos c62, if_neg c64, if_pos c70]
                    exact k_zret kx hK hP61 hD62 hS60 (u := (Z, tr)) rfl ⟨er.symm, e0.symm, e1.symm⟩ kb0 dX7_does_204
              · skip
                by_cases c73 : p0 = 5
                · skip
                  refine lv_tableIn (off := 177) (tgt := 218) hx hb dX7_does_41 (by rw [c73]; decide) (by rw [c73]; decide) (by rw [c73]; rfl) (by decide) ?_
                  refine lv_iload hx hb dX7_does_218 (lv_at hl35 1 rfl) ?_
                  refine lv_if_eq (x := 0) (tgt := 242) hx hb dX7_does_220 (by decide) (fun (c74 : 0 = 0) => ?_) (fun (c74 : ¬ (0 = 0)) => absurd (by decide) c74)
                  refine lv_iconst (v := 0) hx hb dX7_does_242 (by decide) ?_
                  have er : r_X7_does tr p0 p1 p2 = 0 := by rw [r_X7_does]; (try rw [hr1]); (try rw [hr24]); rw [if_neg c2, if_pos c3, if_pos c25, if_neg c46, if_neg c52, if_neg c57, if_neg c62, if_pos c73]
                  have e0 : s_X7_does_Z Z tr p0 p1 p2 = Z := by rw [s_X7_does_Z]; (try rw [hr1]); (try rw [hr24]); rw [if_neg c2, if_pos c3, if_pos c25, if_neg c46, if_neg c52, if_neg c57, if_neg c62, if_pos c73]
                  have e1 : s_X7_does_tr Z tr p0 p1 p2 = tr := by rw [s_X7_does_tr]; (try rw [hr1]); (try rw [hr24]); rw [if_neg c2, if_pos c3, if_pos c25, if_neg c46, if_neg c52, if_neg c57, if_neg c62, if_pos c73]
                  exact k_zret kx hK hP20 hD21 hS19 (u := (Z, tr)) rfl ⟨er.symm, e0.symm, e1.symm⟩ kb0 dX7_does_243
                · skip
                  by_cases c75 : p0 = 6
                  · skip
                    refine lv_tableIn (off := 203) (tgt := 244) hx hb dX7_does_41 (by rw [c75]; decide) (by rw [c75]; decide) (by rw [c75]; rfl) (by decide) ?_
                    refine lv_iload hx hb dX7_does_244 (lv_at hl35 1 rfl) ?_
                    refine lv_if_eq (x := 0) (tgt := 269) hx hb dX7_does_246 (by decide) (fun (c76 : 0 = 0) => ?_) (fun (c76 : ¬ (0 = 0)) => absurd (by decide) c76)
                    refine lv_iconst (v := 0) hx hb dX7_does_269 (by decide) ?_
                    have er : r_X7_does tr p0 p1 p2 = 0 := by rw [r_X7_does]; (try rw [hr1]); (try rw [hr24]); rw [if_neg c2, if_pos c3, if_pos c25, if_neg c46, if_neg c52, if_neg c57, if_neg c62, if_neg c73, if_pos c75]
                    have e0 : s_X7_does_Z Z tr p0 p1 p2 = Z := by rw [s_X7_does_Z]; (try rw [hr1]); (try rw [hr24]); rw [if_neg c2, if_pos c3, if_pos c25, if_neg c46, if_neg c52, if_neg c57, if_neg c62, if_neg c73, if_pos c75]
                    have e1 : s_X7_does_tr Z tr p0 p1 p2 = tr := by rw [s_X7_does_tr]; (try rw [hr1]); (try rw [hr24]); rw [if_neg c2, if_pos c3, if_pos c25, if_neg c46, if_neg c52, if_neg c57, if_neg c62, if_neg c73, if_pos c75]
                    exact k_zret kx hK hP20 hD21 hS19 (u := (Z, tr)) rfl ⟨er.symm, e0.symm, e1.symm⟩ kb0 dX7_does_270
                  · skip
                    by_cases c77 : p0 = 7
                    · skip
                      refine lv_tableIn (off := 230) (tgt := 271) hx hb dX7_does_41 (by rw [c77]; decide) (by rw [c77]; decide) (by rw [c77]; rfl) (by decide) ?_
                      refine lv_iload hx hb dX7_does_271 (lv_at hl35 1 rfl) ?_
                      refine lv_if_eq (x := 0) (tgt := 295) hx hb dX7_does_273 (by decide) (fun (c78 : 0 = 0) => ?_) (fun (c78 : ¬ (0 = 0)) => absurd (by decide) c78)
                      refine lv_iconst (v := 0) hx hb dX7_does_295 (by decide) ?_
                      have er : r_X7_does tr p0 p1 p2 = 0 := by rw [r_X7_does]; (try rw [hr1]); (try rw [hr24]); rw [if_neg c2, if_pos c3, if_pos c25, if_neg c46, if_neg c52, if_neg c57, if_neg c62, if_neg c73, if_neg c75, if_pos c77]
                      have e0 : s_X7_does_Z Z tr p0 p1 p2 = Z := by rw [s_X7_does_Z]; (try rw [hr1]); (try rw [hr24]); rw [if_neg c2, if_pos c3, if_pos c25, if_neg c46, if_neg c52, if_neg c57, if_neg c62, if_neg c73, if_neg c75, if_pos c77]
                      have e1 : s_X7_does_tr Z tr p0 p1 p2 = tr := by rw [s_X7_does_tr]; (try rw [hr1]); (try rw [hr24]); rw [if_neg c2, if_pos c3, if_pos c25, if_neg c46, if_neg c52, if_neg c57, if_neg c62, if_neg c73, if_neg c75, if_pos c77]
                      exact k_zret kx hK hP20 hD21 hS19 (u := (Z, tr)) rfl ⟨er.symm, e0.symm, e1.symm⟩ kb0 dX7_does_296
                    · skip
                      have nc46 := lv_neT (a := 1) c46 (by decide)
                      have nc52 := lv_neT (a := 2) c52 (by decide)
                      have nc57 := lv_neT (a := 3) c57 (by decide)
                      have nc62 := lv_neT (a := 4) c62 (by decide)
                      have nc73 := lv_neT (a := 5) c73 (by decide)
                      have nc75 := lv_neT (a := 6) c75 (by decide)
                      have nc77 := lv_neT (a := 7) c77 (by decide)
                      refine lv_tableOut (tgt := 297) hx hb dX7_does_41 (by omega) (by decide) ?_
                      refine lv_iconst (v := 0) hx hb dX7_does_297 (by decide) ?_
                      have er : r_X7_does tr p0 p1 p2 = 0 := by rw [r_X7_does]; (try rw [hr1]); (try rw [hr24]); rw [if_neg c2, if_pos c3, if_pos c25, if_neg c46, if_neg c52, if_neg c57, if_neg c62, if_neg c73, if_neg c75, if_neg c77]
                      have e0 : s_X7_does_Z Z tr p0 p1 p2 = Z := by rw [s_X7_does_Z]; (try rw [hr1]); (try rw [hr24]); rw [if_neg c2, if_pos c3, if_pos c25, if_neg c46, if_neg c52, if_neg c57, if_neg c62, if_neg c73, if_neg c75, if_neg c77]
                      have e1 : s_X7_does_tr Z tr p0 p1 p2 = tr := by rw [s_X7_does_tr]; (try rw [hr1]); (try rw [hr24]); rw [if_neg c2, if_pos c3, if_pos c25, if_neg c46, if_neg c52, if_neg c57, if_neg c62, if_neg c73, if_neg c75, if_neg c77]
                      exact k_zret kx hK hP20 hD21 hS19 (u := (Z, tr)) rfl ⟨er.symm, e0.symm, e1.symm⟩ kb0 dX7_does_298
  · skip
    refine lv_iconst (v := 1) hx hb dX7_does_15 (by decide) ?_
    refine lv_goto (tgt := 20) hx hb dX7_does_16 (by decide) ?_
    refine lv_istore (lv' := [(5, .int 1), (4, .int ((10 * p1) + p2)), (0, .ref h0), (1, .int p0), (2, .int p1), (3, .int p2)]) hx hb dX7_does_20 hl1 (by decide) rfl (fun ls66 hl66 => ?_)
    refine lv_iload_n hx hb dX7_does_22 rfl (lv_at hl66 4 rfl) ?_
    refine lv_if_ne (x := p1) (tgt := 37) hx hb dX7_does_23 (by decide) (fun (c79 : ¬ (p1 = 0)) => ?_) (fun (c79 : p1 = 0) => ?_)
    · skip
      refine lv_iconst (v := 0) hx hb dX7_does_37 (by decide) ?_
      refine lv_istore (lv' := [(6, .int 0), (5, .int 1), (4, .int ((10 * p1) + p2)), (0, .ref h0), (1, .int p0), (2, .int p1), (3, .int p2)]) hx hb dX7_does_38 hl66 (by decide) rfl (fun ls67 hl67 => ?_)
      refine lv_iload_n hx hb dX7_does_40 rfl (lv_at hl67 4 rfl) ?_
      by_cases c80 : p0 = 1
      · skip
        refine lv_tableIn (off := 43) (tgt := 84) hx hb dX7_does_41 (by rw [c80]; decide) (by rw [c80]; decide) (by rw [c80]; rfl) (by decide) ?_
        refine lv_iload hx hb dX7_does_84 (lv_at hl67 2 rfl) ?_
        refine lv_i2l (v := ((10 * p1) + p2).toInt64) hx hb dX7_does_86 rfl ?_
        refine lv_lconst (v := 1) hx hb dX7_does_87 (by decide) ?_
        refine lv_ldc2 (v := 30) hx hb hown (ht _ q_851) dX7_does_88 ?_
        refine k_calli (kRunS (As := [.long (((10 * p1) + p2).toInt64), .long 1, .long 30]) (rest := []) kx (c_X7_in l G (((10 * p1) + p2).toInt64) 1 30) q_740 q_738 q_36 q_739 nX7_in ⟨Nat.le_of_ble_eq_true rfl, Nat.le_of_ble_eq_true rfl⟩ hK hP3 hD4 (kCtx_nil _) rfl hl67.1 (Nat.le_of_ble_eq_true rfl) dX7_does_91 ⟨Nat.zero_le _, Nat.zero_le _⟩) hP3 hD4 hS2 hA (kCtx_nil _) (fun _ => rfl) (fun r81 _ H68 locs68 hw hP68 hD68 hS68 => ?_)
        have hr81 : r_X7_in (((10 * p1) + p2).toInt64) 1 30 = r81 := (show r81 = r_X7_in (((10 * p1) + p2).toInt64) 1 30 from hw).symm
        have hP69 : va_P G.1 vwCl ([(h0, .inr (7, cM Z q1 q2 q3 q4 q5 q6 q7 q8 q9 q10 q11 sd)), (q5, .inl (G.2.1, 55, .inl tr))]) H68 := hP68
        have hD70 : va_D A ([(h0, .inr (7, cM Z q1 q2 q3 q4 q5 q6 q7 q8 q9 q10 q11 sd)), (q5, .inl (G.2.1, 55, .inl tr))]) := hD68
        refine lv_if_ne (x := r81) (tgt := 99) hx hb dX7_does_94 (by decide) (fun (c82 : ¬ (r81 = 0)) => ?_) (fun (c82 : r81 = 0) => ?_)
        · skip
          refine lv_aload_n hx hb dX7_does_99 rfl (lv_at hl67 3 rfl) ?_
          refine lv_aload_n hx hb dX7_does_100 rfl (lv_at hl67 3 rfl) ?_
          refine va_get (ci := 7) (v := .ref q5) (C := RX7) (T := TX7) (N := 22) hx hb ht inX7 hown hK.1 hP69 0 rfl rfl 8 (by decide) (ht _ q_674) (fun _ h9 => h9) rfl dX7_does_101 ?_
          refine lv_iload hx hb dX7_does_104 (lv_at hl67 2 rfl) ?_
          refine k_callv (kRunV (As := [.ref q5, .int ((10 * p1) + p2)]) (rest := []) kx (c_X7_goFor l G Z sd h0 q1 q2 q3 q4 q5 q6 q7 q8 q9 q10 q11 tr q5 ((10 * p1) + p2)) q_778 q_775 q_36 q_777 q_17 nX7_goFor ⟨Nat.le_of_ble_eq_true rfl, Nat.le_of_ble_eq_true rfl⟩ hK hP69 hD70 (kCtx_all _) 0 7 rfl rfl rfl rfl hl67.1 (Nat.le_of_ble_eq_true rfl) dX7_does_106 ⟨Nat.zero_le _, Nat.zero_le _⟩) hP69 hD70 hS68 hA (kCtx_all _) (fun _ => rfl) (fun u H71 locs71 hw hP71 hD71 hS71 => ?_)
          obtain ⟨F84, F85⟩ := u
          obtain ⟨hF84, hF85⟩ := hw
          have hF84 : s_X7_goFor_Z Z tr ((10 * p1) + p2) = F84 := (show F84 = s_X7_goFor_Z Z tr ((10 * p1) + p2) from hF84).symm
          have hF85 : s_X7_goFor_f Z tr ((10 * p1) + p2) = F85 := (show F85 = s_X7_goFor_f Z tr ((10 * p1) + p2) from hF85).symm
          have hP72 : va_P G.1 vwCl ([(h0, .inr (7, cM F84 q1 q2 q3 q4 q5 q6 q7 q8 q9 q10 q11 sd)), (q5, .inl (G.2.1, 55, .inl F85))]) H71 := hP71
          have hD73 : va_D A ([(h0, .inr (7, cM F84 q1 q2 q3 q4 q5 q6 q7 q8 q9 q10 q11 sd)), (q5, .inl (G.2.1, 55, .inl F85))]) := hD71
          refine lv_iconst (v := 1) hx hb dX7_does_109 (by decide) ?_
          have er : r_X7_does tr p0 p1 p2 = 1 := by rw [r_X7_does]; (try rw [hr1]); (try rw [hr81]); (try rw [hF84]); (try rw [hF85]); rw [if_pos c2, if_neg c79, if_pos c80, if_neg c82]
          have e0 : s_X7_does_Z Z tr p0 p1 p2 = F84 := by rw [s_X7_does_Z]; (try rw [hr1]); (try rw [hr81]); (try rw [hF84]); (try rw [hF85]); rw [if_pos c2, if_neg c79, if_pos c80, if_neg c82]
          have e1 : s_X7_does_tr Z tr p0 p1 p2 = F85 := by rw [s_X7_does_tr]; (try rw [hr1]); (try rw [hr81]); (try rw [hF84]); (try rw [hF85]); rw [if_pos c2, if_neg c79, if_pos c80, if_neg c82]
          exact k_zret kx hK hP72 hD73 hS71 (u := (F84, F85)) rfl ⟨er.symm, e0.symm, e1.symm⟩ kb1 dX7_does_110
        · skip
          refine lv_iconst (v := 0) hx hb dX7_does_97 (by decide) ?_
          have er : r_X7_does tr p0 p1 p2 = 0 := by rw [r_X7_does]; (try rw [hr1]); (try rw [hr81]); rw [if_pos c2, if_neg c79, if_pos c80, if_pos c82]
          have e0 : s_X7_does_Z Z tr p0 p1 p2 = Z := by rw [s_X7_does_Z]; (try rw [hr1]); (try rw [hr81]); rw [if_pos c2, if_neg c79, if_pos c80, if_pos c82]
          have e1 : s_X7_does_tr Z tr p0 p1 p2 = tr := by rw [s_X7_does_tr]; (try rw [hr1]); (try rw [hr81]); rw [if_pos c2, if_neg c79, if_pos c80, if_pos c82]
          exact k_zret kx hK hP69 hD70 hS68 (u := (Z, tr)) rfl ⟨er.symm, e0.symm, e1.symm⟩ kb0 dX7_does_98
      · skip
        by_cases c86 : p0 = 2
        · skip
          refine lv_tableIn (off := 70) (tgt := 111) hx hb dX7_does_41 (by rw [c86]; decide) (by rw [c86]; decide) (by rw [c86]; rfl) (by decide) ?_
          refine lv_aload_n hx hb dX7_does_111 rfl (lv_at hl67 3 rfl) ?_
          refine va_get (ci := 7) (v := .ref q5) (C := RX7) (T := TX7) (N := 22) hx hb ht inX7 hown hK.1 hP3 0 rfl rfl 8 (by decide) (ht _ q_674) (fun _ h9 => h9) rfl dX7_does_112 ?_
          refine lv_iload hx hb dX7_does_115 (lv_at hl67 0 rfl) ?_
          refine lv_if_eq (x := 0) (tgt := 130) hx hb dX7_does_117 (by decide) (fun (c87 : 0 = 0) => ?_) (fun (c87 : ¬ (0 = 0)) => absurd (by decide) c87)
          refine lv_bipush (v := 7) hx hb dX7_does_130 (by decide) ?_
          refine lv_dup2_11 hx hb dX7_does_132 rfl rfl ?_
          refine k_iald (v := (tr 7)) kx hK hP3 1 rfl 7 rfl (by decide) (by decide) rfl dX7_does_133 ?_
          refine lv_iload hx hb dX7_does_134 (lv_at hl67 0 rfl) ?_
          refine lv_if_eq (x := 0) (tgt := 143) hx hb dX7_does_136 (by decide) (fun (c88 : 0 = 0) => ?_) (fun (c88 : ¬ (0 = 0)) => absurd (by decide) c88)
          refine lv_iconst (v := 0) hx hb dX7_does_143 (by decide) ?_
          refine lv_ixor hx hb dX7_does_144 ?_
          refine k_iast kx hK hP3 hD4 hS2 1 rfl 7 rfl (by decide) (by decide) dX7_does_145 (fun H74 locs74 hP74 hD74 hS74 => ?_)
          have hP75 : va_P G.1 vwCl ([(h0, .inr (7, cM Z q1 q2 q3 q4 q5 q6 q7 q8 q9 q10 q11 sd)), (q5, .inl (G.2.1, 55, .inl (upd tr 7 ((tr 7) ^^^ 0))))]) H74 := hP74
          have hD76 : va_D A ([(h0, .inr (7, cM Z q1 q2 q3 q4 q5 q6 q7 q8 q9 q10 q11 sd)), (q5, .inl (G.2.1, 55, .inl (upd tr 7 ((tr 7) ^^^ 0))))]) := hD74
          refine lv_iload hx hb dX7_does_146 (lv_at hl67 0 rfl) ?_
          have er : r_X7_does tr p0 p1 p2 = 0 := by rw [r_X7_does]; (try rw [hr1]); rw [if_pos c2, if_neg c79, if_neg c80, if_pos c86]
          have e0 : s_X7_does_Z Z tr p0 p1 p2 = Z := by rw [s_X7_does_Z]; (try rw [hr1]); rw [if_pos c2, if_neg c79, if_neg c80, if_pos c86]
          have e1 : s_X7_does_tr Z tr p0 p1 p2 = upd tr 7 ((tr 7) ^^^ 0) := by rw [s_X7_does_tr]; (try rw [hr1]); rw [if_pos c2, if_neg c79, if_neg c80, if_pos c86]
          exact k_zret kx hK hP75 hD76 hS74 (u := (Z, upd tr 7 ((tr 7) ^^^ 0))) rfl ⟨er.symm, e0.symm, e1.symm⟩ kb0 dX7_does_148
        · skip
          by_cases c89 : p0 = 3
          · skip
            refine lv_tableIn (off := 108) (tgt := 149) hx hb dX7_does_41 (by rw [c89]; decide) (by rw [c89]; decide) (by rw [c89]; rfl) (by decide) ?_
            refine lv_aload_n hx hb dX7_does_149 rfl (lv_at hl67 3 rfl) ?_
            refine va_get (ci := 7) (v := .ref q5) (C := RX7) (T := TX7) (N := 22) hx hb ht inX7 hown hK.1 hP3 0 rfl rfl 8 (by decide) (ht _ q_674) (fun _ h9 => h9) rfl dX7_does_150 ?_
            refine lv_iload hx hb dX7_does_153 (lv_at hl67 0 rfl) ?_
            refine lv_if_eq (x := 0) (tgt := 165) hx hb dX7_does_155 (by decide) (fun (c90 : 0 = 0) => ?_) (fun (c90 : ¬ (0 = 0)) => absurd (by decide) c90)
            refine lv_bipush (v := 32) hx hb dX7_does_165 (by decide) ?_
            refine lv_dup2_11 hx hb dX7_does_167 rfl rfl ?_
            refine k_iald (v := (tr 32)) kx hK hP3 1 rfl 32 rfl (by decide) (by decide) rfl dX7_does_168 ?_
            refine lv_iload hx hb dX7_does_169 (lv_at hl67 0 rfl) ?_
            refine lv_if_eq (x := 0) (tgt := 178) hx hb dX7_does_171 (by decide) (fun (c91 : 0 = 0) => ?_) (fun (c91 : ¬ (0 = 0)) => absurd (by decide) c91)
            refine lv_iconst (v := 0) hx hb dX7_does_178 (by decide) ?_
            refine lv_ixor hx hb dX7_does_179 ?_
            refine k_iast kx hK hP3 hD4 hS2 1 rfl 32 rfl (by decide) (by decide) dX7_does_180 (fun H77 locs77 hP77 hD77 hS77 => ?_)
            have hP78 : va_P G.1 vwCl ([(h0, .inr (7, cM Z q1 q2 q3 q4 q5 q6 q7 q8 q9 q10 q11 sd)), (q5, .inl (G.2.1, 55, .inl (upd tr 32 ((tr 32) ^^^ 0))))]) H77 := hP77
            have hD79 : va_D A ([(h0, .inr (7, cM Z q1 q2 q3 q4 q5 q6 q7 q8 q9 q10 q11 sd)), (q5, .inl (G.2.1, 55, .inl (upd tr 32 ((tr 32) ^^^ 0))))]) := hD77
            refine lv_iload hx hb dX7_does_181 (lv_at hl67 0 rfl) ?_
            have er : r_X7_does tr p0 p1 p2 = 0 := by rw [r_X7_does]; (try rw [hr1]); rw [if_pos c2, if_neg c79, if_neg c80, if_neg c86, if_pos c89]
            have e0 : s_X7_does_Z Z tr p0 p1 p2 = Z := by rw [s_X7_does_Z]; (try rw [hr1]); rw [if_pos c2, if_neg c79, if_neg c80, if_neg c86, if_pos c89]
            have e1 : s_X7_does_tr Z tr p0 p1 p2 = upd tr 32 ((tr 32) ^^^ 0) := by rw [s_X7_does_tr]; (try rw [hr1]); rw [if_pos c2, if_neg c79, if_neg c80, if_neg c86, if_pos c89]
            exact k_zret kx hK hP78 hD79 hS77 (u := (Z, upd tr 32 ((tr 32) ^^^ 0))) rfl ⟨er.symm, e0.symm, e1.symm⟩ kb0 dX7_does_183
          · skip
            by_cases c92 : p0 = 4
            · skip
              refine lv_tableIn (off := 143) (tgt := 184) hx hb dX7_does_41 (by rw [c92]; decide) (by rw [c92]; decide) (by rw [c92]; rfl) (by decide) ?_
              refine lv_iload hx hb dX7_does_184 (lv_at hl67 0 rfl) ?_
              refine lv_if_eq (x := 0) (tgt := 203) hx hb dX7_does_186 (by decide) (fun (c93 : 0 = 0) => ?_) (fun (c93 : ¬ (0 = 0)) => absurd (by decide) c93)
              refine lv_iconst (v := 0) hx hb dX7_does_203 (by decide) ?_
              have er : r_X7_does tr p0 p1 p2 = 0 := by rw [r_X7_does]; (try rw [hr1]); rw [if_pos c2, if_neg c79, if_neg c80, if_neg c86, if_neg c89, if_pos c92]
              have e0 : s_X7_does_Z Z tr p0 p1 p2 = Z := by rw [s_X7_does_Z]; (try rw [hr1]); rw [if_pos c2, if_neg c79, if_neg c80, if_neg c86, if_neg c89, if_pos c92]
              have e1 : s_X7_does_tr Z tr p0 p1 p2 = tr := by rw [s_X7_does_tr]; (try rw [hr1]); rw [if_pos c2, if_neg c79, if_neg c80, if_neg c86, if_neg c89, if_pos c92]
              exact k_zret kx hK hP3 hD4 hS2 (u := (Z, tr)) rfl ⟨er.symm, e0.symm, e1.symm⟩ kb0 dX7_does_204
            · skip
              by_cases c94 : p0 = 5
              · skip
                refine lv_tableIn (off := 177) (tgt := 218) hx hb dX7_does_41 (by rw [c94]; decide) (by rw [c94]; decide) (by rw [c94]; rfl) (by decide) ?_
                refine lv_iload hx hb dX7_does_218 (lv_at hl67 1 rfl) ?_
                refine lv_if_eq (x := 1) (tgt := 242) hx hb dX7_does_220 (by decide) (fun (c95 : 1 = 0) => absurd c95 (by decide)) (fun (c95 : ¬ (1 = 0)) => ?_)
                refine lv_aload_n hx hb dX7_does_223 rfl (lv_at hl67 3 rfl) ?_
                refine va_get (ci := 7) (v := .ref q5) (C := RX7) (T := TX7) (N := 22) hx hb ht inX7 hown hK.1 hP3 0 rfl rfl 8 (by decide) (ht _ q_674) (fun _ h9 => h9) rfl dX7_does_224 ?_
                refine lv_bipush (v := 16) hx hb dX7_does_227 (by decide) ?_
                refine lv_iload_n hx hb dX7_does_229 rfl (lv_at hl67 5 rfl) ?_
                refine k_top (y := 1) (k01e hr1 c2 c79) ?_
                refine lv_imul hx hb dX7_does_230 ?_
                refine k_top (y := 16) (by decide +kernel) ?_
                refine lv_iconst (v := 5) hx hb dX7_does_231 (by decide) ?_
                refine lv_iadd hx hb dX7_does_232 ?_
                refine k_top (y := 21) (by decide +kernel) ?_
                refine k_iald (v := (tr 21)) kx hK hP3 1 rfl 21 rfl (by decide) (by decide) rfl dX7_does_233 ?_
                refine lv_iload_n hx hb dX7_does_234 rfl (lv_at hl67 6 rfl) ?_
                refine lv_icmp_ne (x := tr 21) (y := p2) (tgt := 242) hx hb dX7_does_235 (by decide) (fun (c97 : ¬ (tr 21 = p2)) => ?_) (fun (c97 : tr 21 = p2) => ?_)
                · skip
                  refine lv_iconst (v := 0) hx hb dX7_does_242 (by decide) ?_
                  have er : r_X7_does tr p0 p1 p2 = 0 := by rw [r_X7_does]; (try rw [hr1]); rw [if_pos c2, if_neg c79, if_neg c80, if_neg c86, if_neg c89, if_neg c92, if_pos c94, if_neg c97]
                  have e0 : s_X7_does_Z Z tr p0 p1 p2 = Z := by rw [s_X7_does_Z]; (try rw [hr1]); rw [if_pos c2, if_neg c79, if_neg c80, if_neg c86, if_neg c89, if_neg c92, if_pos c94, if_neg c97]
                  have e1 : s_X7_does_tr Z tr p0 p1 p2 = tr := by rw [s_X7_does_tr]; (try rw [hr1]); rw [if_pos c2, if_neg c79, if_neg c80, if_neg c86, if_neg c89, if_neg c92, if_pos c94, if_neg c97]
                  exact k_zret kx hK hP3 hD4 hS2 (u := (Z, tr)) rfl ⟨er.symm, e0.symm, e1.symm⟩ kb0 dX7_does_243
                · skip
                  refine lv_iconst (v := 1) hx hb dX7_does_238 (by decide) ?_
                  refine lv_goto (tgt := 243) hx hb dX7_does_239 (by decide) ?_
                  have er : r_X7_does tr p0 p1 p2 = 1 := by rw [r_X7_does]; (try rw [hr1]); rw [if_pos c2, if_neg c79, if_neg c80, if_neg c86, if_neg c89, if_neg c92, if_pos c94, if_pos c97]
                  have e0 : s_X7_does_Z Z tr p0 p1 p2 = Z := by rw [s_X7_does_Z]; (try rw [hr1]); rw [if_pos c2, if_neg c79, if_neg c80, if_neg c86, if_neg c89, if_neg c92, if_pos c94, if_pos c97]
                  have e1 : s_X7_does_tr Z tr p0 p1 p2 = tr := by rw [s_X7_does_tr]; (try rw [hr1]); rw [if_pos c2, if_neg c79, if_neg c80, if_neg c86, if_neg c89, if_neg c92, if_pos c94, if_pos c97]
                  exact k_zret kx hK hP3 hD4 hS2 (u := (Z, tr)) rfl ⟨er.symm, e0.symm, e1.symm⟩ kb1 dX7_does_243
              · skip
                by_cases c98 : p0 = 6
                · skip
                  refine lv_tableIn (off := 203) (tgt := 244) hx hb dX7_does_41 (by rw [c98]; decide) (by rw [c98]; decide) (by rw [c98]; rfl) (by decide) ?_
                  refine lv_iload hx hb dX7_does_244 (lv_at hl67 1 rfl) ?_
                  refine lv_if_eq (x := 1) (tgt := 269) hx hb dX7_does_246 (by decide) (fun (c99 : 1 = 0) => absurd c99 (by decide)) (fun (c99 : ¬ (1 = 0)) => ?_)
                  refine lv_aload_n hx hb dX7_does_249 rfl (lv_at hl67 3 rfl) ?_
                  refine va_get (ci := 7) (v := .ref q5) (C := RX7) (T := TX7) (N := 22) hx hb ht inX7 hown hK.1 hP3 0 rfl rfl 8 (by decide) (ht _ q_674) (fun _ h9 => h9) rfl dX7_does_250 ?_
                  refine lv_bipush (v := 16) hx hb dX7_does_253 (by decide) ?_
                  refine lv_iload_n hx hb dX7_does_255 rfl (lv_at hl67 5 rfl) ?_
                  refine k_top (y := 1) (k01e hr1 c2 c79) ?_
                  refine lv_imul hx hb dX7_does_256 ?_
                  refine k_top (y := 16) (by decide +kernel) ?_
                  refine lv_bipush (v := 6) hx hb dX7_does_257 (by decide) ?_
                  refine lv_iadd hx hb dX7_does_259 ?_
                  refine k_top (y := 22) (by decide +kernel) ?_
                  refine k_iald (v := (tr 22)) kx hK hP3 1 rfl 22 rfl (by decide) (by decide) rfl dX7_does_260 ?_
                  refine lv_iload_n hx hb dX7_does_261 rfl (lv_at hl67 6 rfl) ?_
                  refine lv_icmp_ne (x := tr 22) (y := p2) (tgt := 269) hx hb dX7_does_262 (by decide) (fun (c101 : ¬ (tr 22 = p2)) => ?_) (fun (c101 : tr 22 = p2) => ?_)
                  · skip
                    refine lv_iconst (v := 0) hx hb dX7_does_269 (by decide) ?_
                    have er : r_X7_does tr p0 p1 p2 = 0 := by rw [r_X7_does]; (try rw [hr1]); rw [if_pos c2, if_neg c79, if_neg c80, if_neg c86, if_neg c89, if_neg c92, if_neg c94, if_pos c98, if_neg c101]
                    have e0 : s_X7_does_Z Z tr p0 p1 p2 = Z := by rw [s_X7_does_Z]; (try rw [hr1]); rw [if_pos c2, if_neg c79, if_neg c80, if_neg c86, if_neg c89, if_neg c92, if_neg c94, if_pos c98, if_neg c101]
                    have e1 : s_X7_does_tr Z tr p0 p1 p2 = tr := by rw [s_X7_does_tr]; (try rw [hr1]); rw [if_pos c2, if_neg c79, if_neg c80, if_neg c86, if_neg c89, if_neg c92, if_neg c94, if_pos c98, if_neg c101]
                    exact k_zret kx hK hP3 hD4 hS2 (u := (Z, tr)) rfl ⟨er.symm, e0.symm, e1.symm⟩ kb0 dX7_does_270
                  · skip
                    refine lv_iconst (v := 1) hx hb dX7_does_265 (by decide) ?_
                    refine lv_goto (tgt := 270) hx hb dX7_does_266 (by decide) ?_
                    have er : r_X7_does tr p0 p1 p2 = 1 := by rw [r_X7_does]; (try rw [hr1]); rw [if_pos c2, if_neg c79, if_neg c80, if_neg c86, if_neg c89, if_neg c92, if_neg c94, if_pos c98, if_pos c101]
                    have e0 : s_X7_does_Z Z tr p0 p1 p2 = Z := by rw [s_X7_does_Z]; (try rw [hr1]); rw [if_pos c2, if_neg c79, if_neg c80, if_neg c86, if_neg c89, if_neg c92, if_neg c94, if_pos c98, if_pos c101]
                    have e1 : s_X7_does_tr Z tr p0 p1 p2 = tr := by rw [s_X7_does_tr]; (try rw [hr1]); rw [if_pos c2, if_neg c79, if_neg c80, if_neg c86, if_neg c89, if_neg c92, if_neg c94, if_pos c98, if_pos c101]
                    exact k_zret kx hK hP3 hD4 hS2 (u := (Z, tr)) rfl ⟨er.symm, e0.symm, e1.symm⟩ kb1 dX7_does_270
                · skip
                  by_cases c102 : p0 = 7
                  · skip
                    refine lv_tableIn (off := 230) (tgt := 271) hx hb dX7_does_41 (by rw [c102]; decide) (by rw [c102]; decide) (by rw [c102]; rfl) (by decide) ?_
                    refine lv_iload hx hb dX7_does_271 (lv_at hl67 1 rfl) ?_
                    refine lv_if_eq (x := 1) (tgt := 295) hx hb dX7_does_273 (by decide) (fun (c103 : 1 = 0) => absurd c103 (by decide)) (fun (c103 : ¬ (1 = 0)) => ?_)
                    refine lv_aload_n hx hb dX7_does_276 rfl (lv_at hl67 3 rfl) ?_
                    refine va_get (ci := 7) (v := .ref q5) (C := RX7) (T := TX7) (N := 22) hx hb ht inX7 hown hK.1 hP3 0 rfl rfl 8 (by decide) (ht _ q_674) (fun _ h9 => h9) rfl dX7_does_277 ?_
                    refine lv_bipush (v := 16) hx hb dX7_does_280 (by decide) ?_
                    refine lv_iload_n hx hb dX7_does_282 rfl (lv_at hl67 5 rfl) ?_
                    refine k_top (y := 1) (k01e hr1 c2 c79) ?_
                    refine lv_imul hx hb dX7_does_283 ?_
                    refine k_top (y := 16) (by decide +kernel) ?_
                    refine k_calli (kRunS (As := [.ref q5, .int 16]) (rest := []) kx (c_X7_paceOn_16 l G tr q5) q_817 q_815 q_36 q_816 nX7_paceOn ⟨Nat.le_of_ble_eq_true rfl, Nat.le_of_ble_eq_true rfl⟩ hK hP3 hD4 (kCtx_places _ _ [1] rfl rfl) rfl hl67.1 (Nat.le_of_ble_eq_true rfl) dX7_does_284 ⟨Nat.zero_le _, Nat.zero_le _⟩) hP3 hD4 hS2 hA (kCtx_places _ _ [1] rfl rfl) (fun _ => rfl) (fun r105 _ H80 locs80 hw hP80 hD80 hS80 => ?_)
                    have hr105 : r_X7_paceOn_16 tr = r105 := (show r105 = r_X7_paceOn_16 tr from hw).symm
                    have hP81 : va_P G.1 vwCl ([(h0, .inr (7, cM Z q1 q2 q3 q4 q5 q6 q7 q8 q9 q10 q11 sd)), (q5, .inl (G.2.1, 55, .inl tr))]) H80 := hP80
                    have hD82 : va_D A ([(h0, .inr (7, cM Z q1 q2 q3 q4 q5 q6 q7 q8 q9 q10 q11 sd)), (q5, .inl (G.2.1, 55, .inl tr))]) := hD80
                    refine lv_iload_n hx hb dX7_does_287 rfl (lv_at hl67 6 rfl) ?_
                    refine lv_icmp_ne (x := r105) (y := p2) (tgt := 295) hx hb dX7_does_288 (by decide) (fun (c106 : ¬ (r105 = p2)) => ?_) (fun (c106 : r105 = p2) => ?_)
                    · skip
                      refine lv_iconst (v := 0) hx hb dX7_does_295 (by decide) ?_
                      have er : r_X7_does tr p0 p1 p2 = 0 := by rw [r_X7_does]; (try rw [hr1]); (try rw [hr105]); rw [if_pos c2, if_neg c79, if_neg c80, if_neg c86, if_neg c89, if_neg c92, if_neg c94, if_neg c98, if_pos c102, if_neg c106]
                      have e0 : s_X7_does_Z Z tr p0 p1 p2 = Z := by rw [s_X7_does_Z]; (try rw [hr1]); (try rw [hr105]); rw [if_pos c2, if_neg c79, if_neg c80, if_neg c86, if_neg c89, if_neg c92, if_neg c94, if_neg c98, if_pos c102, if_neg c106]
                      have e1 : s_X7_does_tr Z tr p0 p1 p2 = tr := by rw [s_X7_does_tr]; (try rw [hr1]); (try rw [hr105]); rw [if_pos c2, if_neg c79, if_neg c80, if_neg c86, if_neg c89, if_neg c92, if_neg c94, if_neg c98, if_pos c102, if_neg c106]
                      exact k_zret kx hK hP81 hD82 hS80 (u := (Z, tr)) rfl ⟨er.symm, e0.symm, e1.symm⟩ kb0 dX7_does_296
                    · skip
                      refine lv_iconst (v := 1) hx hb dX7_does_291 (by decide) ?_
                      refine lv_goto (tgt := 296) hx hb dX7_does_292 (by decide) ?_
                      have er : r_X7_does tr p0 p1 p2 = 1 := by rw [r_X7_does]; (try rw [hr1]); (try rw [hr105]); rw [if_pos c2, if_neg c79, if_neg c80, if_neg c86, if_neg c89, if_neg c92, if_neg c94, if_neg c98, if_pos c102, if_pos c106]
                      have e0 : s_X7_does_Z Z tr p0 p1 p2 = Z := by rw [s_X7_does_Z]; (try rw [hr1]); (try rw [hr105]); rw [if_pos c2, if_neg c79, if_neg c80, if_neg c86, if_neg c89, if_neg c92, if_neg c94, if_neg c98, if_pos c102, if_pos c106]
                      have e1 : s_X7_does_tr Z tr p0 p1 p2 = tr := by rw [s_X7_does_tr]; (try rw [hr1]); (try rw [hr105]); rw [if_pos c2, if_neg c79, if_neg c80, if_neg c86, if_neg c89, if_neg c92, if_neg c94, if_neg c98, if_pos c102, if_pos c106]
                      exact k_zret kx hK hP81 hD82 hS80 (u := (Z, tr)) rfl ⟨er.symm, e0.symm, e1.symm⟩ kb1 dX7_does_296
                  · skip
                    have nc80 := lv_neT (a := 1) c80 (by decide)
                    have nc86 := lv_neT (a := 2) c86 (by decide)
                    have nc89 := lv_neT (a := 3) c89 (by decide)
                    have nc92 := lv_neT (a := 4) c92 (by decide)
                    have nc94 := lv_neT (a := 5) c94 (by decide)
                    have nc98 := lv_neT (a := 6) c98 (by decide)
                    have nc102 := lv_neT (a := 7) c102 (by decide)
                    refine lv_tableOut (tgt := 297) hx hb dX7_does_41 (by omega) (by decide) ?_
                    refine lv_iconst (v := 0) hx hb dX7_does_297 (by decide) ?_
                    have er : r_X7_does tr p0 p1 p2 = 0 := by rw [r_X7_does]; (try rw [hr1]); rw [if_pos c2, if_neg c79, if_neg c80, if_neg c86, if_neg c89, if_neg c92, if_neg c94, if_neg c98, if_neg c102]
                    have e0 : s_X7_does_Z Z tr p0 p1 p2 = Z := by rw [s_X7_does_Z]; (try rw [hr1]); rw [if_pos c2, if_neg c79, if_neg c80, if_neg c86, if_neg c89, if_neg c92, if_neg c94, if_neg c98, if_neg c102]
                    have e1 : s_X7_does_tr Z tr p0 p1 p2 = tr := by rw [s_X7_does_tr]; (try rw [hr1]); rw [if_pos c2, if_neg c79, if_neg c80, if_neg c86, if_neg c89, if_neg c92, if_neg c94, if_neg c98, if_neg c102]
                    exact k_zret kx hK hP3 hD4 hS2 (u := (Z, tr)) rfl ⟨er.symm, e0.symm, e1.symm⟩ kb0 dX7_does_298
    · skip
      refine lv_iload_n hx hb dX7_does_26 rfl (lv_at hl66 5 rfl) ?_
      refine k_calli (kRunS (As := [.int p2]) (rest := []) kx (c_X7_noEnd l G p2) q_824 q_822 q_36 q_823 nX7_noEnd ⟨Nat.le_of_ble_eq_true rfl, Nat.le_of_ble_eq_true rfl⟩ hK hP3 hD4 (kCtx_nil _) rfl hl66.1 (Nat.le_of_ble_eq_true rfl) dX7_does_27 ⟨Nat.zero_le _, Nat.zero_le _⟩) hP3 hD4 hS2 hA (kCtx_nil _) (fun _ => rfl) (fun r107 _ H83 locs83 hw hP83 hD83 hS83 => ?_)
      have hr107 : r_X7_noEnd p2 = r107 := (show r107 = r_X7_noEnd p2 from hw).symm
      have hP84 : va_P G.1 vwCl ([(h0, .inr (7, cM Z q1 q2 q3 q4 q5 q6 q7 q8 q9 q10 q11 sd)), (q5, .inl (G.2.1, 55, .inl tr))]) H83 := hP83
      have hD85 : va_D A ([(h0, .inr (7, cM Z q1 q2 q3 q4 q5 q6 q7 q8 q9 q10 q11 sd)), (q5, .inl (G.2.1, 55, .inl tr))]) := hD83
      refine lv_if_ne (x := r107) (tgt := 37) hx hb dX7_does_30 (by decide) (fun (c108 : ¬ (r107 = 0)) => ?_) (fun (c108 : r107 = 0) => ?_)
      · skip
        refine lv_iconst (v := 0) hx hb dX7_does_37 (by decide) ?_
        refine lv_istore (lv' := [(6, .int 0), (5, .int 1), (4, .int ((10 * p1) + p2)), (0, .ref h0), (1, .int p0), (2, .int p1), (3, .int p2)]) hx hb dX7_does_38 hl66 (by decide) rfl (fun ls86 hl86 => ?_)
        refine lv_iload_n hx hb dX7_does_40 rfl (lv_at hl86 4 rfl) ?_
        by_cases c109 : p0 = 1
        · skip
          refine lv_tableIn (off := 43) (tgt := 84) hx hb dX7_does_41 (by rw [c109]; decide) (by rw [c109]; decide) (by rw [c109]; rfl) (by decide) ?_
          refine lv_iload hx hb dX7_does_84 (lv_at hl86 2 rfl) ?_
          refine lv_i2l (v := ((10 * p1) + p2).toInt64) hx hb dX7_does_86 rfl ?_
          refine lv_lconst (v := 1) hx hb dX7_does_87 (by decide) ?_
          refine lv_ldc2 (v := 30) hx hb hown (ht _ q_851) dX7_does_88 ?_
          refine k_calli (kRunS (As := [.long (((10 * p1) + p2).toInt64), .long 1, .long 30]) (rest := []) kx (c_X7_in l G (((10 * p1) + p2).toInt64) 1 30) q_740 q_738 q_36 q_739 nX7_in ⟨Nat.le_of_ble_eq_true rfl, Nat.le_of_ble_eq_true rfl⟩ hK hP84 hD85 (kCtx_nil _) rfl hl86.1 (Nat.le_of_ble_eq_true rfl) dX7_does_91 ⟨Nat.zero_le _, Nat.zero_le _⟩) hP84 hD85 hS83 hA (kCtx_nil _) (fun _ => rfl) (fun r110 _ H87 locs87 hw hP87 hD87 hS87 => ?_)
          have hr110 : r_X7_in (((10 * p1) + p2).toInt64) 1 30 = r110 := (show r110 = r_X7_in (((10 * p1) + p2).toInt64) 1 30 from hw).symm
          have hP88 : va_P G.1 vwCl ([(h0, .inr (7, cM Z q1 q2 q3 q4 q5 q6 q7 q8 q9 q10 q11 sd)), (q5, .inl (G.2.1, 55, .inl tr))]) H87 := hP87
          have hD89 : va_D A ([(h0, .inr (7, cM Z q1 q2 q3 q4 q5 q6 q7 q8 q9 q10 q11 sd)), (q5, .inl (G.2.1, 55, .inl tr))]) := hD87
          refine lv_if_ne (x := r110) (tgt := 99) hx hb dX7_does_94 (by decide) (fun (c111 : ¬ (r110 = 0)) => ?_) (fun (c111 : r110 = 0) => ?_)
          · skip
            refine lv_aload_n hx hb dX7_does_99 rfl (lv_at hl86 3 rfl) ?_
            refine lv_aload_n hx hb dX7_does_100 rfl (lv_at hl86 3 rfl) ?_
            refine va_get (ci := 7) (v := .ref q5) (C := RX7) (T := TX7) (N := 22) hx hb ht inX7 hown hK.1 hP88 0 rfl rfl 8 (by decide) (ht _ q_674) (fun _ h9 => h9) rfl dX7_does_101 ?_
            refine lv_iload hx hb dX7_does_104 (lv_at hl86 2 rfl) ?_
            refine k_callv (kRunV (As := [.ref q5, .int ((10 * p1) + p2)]) (rest := []) kx (c_X7_goFor l G Z sd h0 q1 q2 q3 q4 q5 q6 q7 q8 q9 q10 q11 tr q5 ((10 * p1) + p2)) q_778 q_775 q_36 q_777 q_17 nX7_goFor ⟨Nat.le_of_ble_eq_true rfl, Nat.le_of_ble_eq_true rfl⟩ hK hP88 hD89 (kCtx_all _) 0 7 rfl rfl rfl rfl hl86.1 (Nat.le_of_ble_eq_true rfl) dX7_does_106 ⟨Nat.zero_le _, Nat.zero_le _⟩) hP88 hD89 hS87 hA (kCtx_all _) (fun _ => rfl) (fun u H90 locs90 hw hP90 hD90 hS90 => ?_)
            obtain ⟨F113, F114⟩ := u
            obtain ⟨hF113, hF114⟩ := hw
            have hF113 : s_X7_goFor_Z Z tr ((10 * p1) + p2) = F113 := (show F113 = s_X7_goFor_Z Z tr ((10 * p1) + p2) from hF113).symm
            have hF114 : s_X7_goFor_f Z tr ((10 * p1) + p2) = F114 := (show F114 = s_X7_goFor_f Z tr ((10 * p1) + p2) from hF114).symm
            have hP91 : va_P G.1 vwCl ([(h0, .inr (7, cM F113 q1 q2 q3 q4 q5 q6 q7 q8 q9 q10 q11 sd)), (q5, .inl (G.2.1, 55, .inl F114))]) H90 := hP90
            have hD92 : va_D A ([(h0, .inr (7, cM F113 q1 q2 q3 q4 q5 q6 q7 q8 q9 q10 q11 sd)), (q5, .inl (G.2.1, 55, .inl F114))]) := hD90
            refine lv_iconst (v := 1) hx hb dX7_does_109 (by decide) ?_
            have er : r_X7_does tr p0 p1 p2 = 1 := by rw [r_X7_does]; (try rw [hr1]); (try rw [hr107]); (try rw [hr110]); (try rw [hF113]); (try rw [hF114]); rw [if_pos c2, if_pos c79, if_neg c108, if_pos c109, if_neg c111]
            have e0 : s_X7_does_Z Z tr p0 p1 p2 = F113 := by rw [s_X7_does_Z]; (try rw [hr1]); (try rw [hr107]); (try rw [hr110]); (try rw [hF113]); (try rw [hF114]); rw [if_pos c2, if_pos c79, if_neg c108, if_pos c109, if_neg c111]
            have e1 : s_X7_does_tr Z tr p0 p1 p2 = F114 := by rw [s_X7_does_tr]; (try rw [hr1]); (try rw [hr107]); (try rw [hr110]); (try rw [hF113]); (try rw [hF114]); rw [if_pos c2, if_pos c79, if_neg c108, if_pos c109, if_neg c111]
            exact k_zret kx hK hP91 hD92 hS90 (u := (F113, F114)) rfl ⟨er.symm, e0.symm, e1.symm⟩ kb1 dX7_does_110
          · skip
            refine lv_iconst (v := 0) hx hb dX7_does_97 (by decide) ?_
            have er : r_X7_does tr p0 p1 p2 = 0 := by rw [r_X7_does]; (try rw [hr1]); (try rw [hr107]); (try rw [hr110]); rw [if_pos c2, if_pos c79, if_neg c108, if_pos c109, if_pos c111]
            have e0 : s_X7_does_Z Z tr p0 p1 p2 = Z := by rw [s_X7_does_Z]; (try rw [hr1]); (try rw [hr107]); (try rw [hr110]); rw [if_pos c2, if_pos c79, if_neg c108, if_pos c109, if_pos c111]
            have e1 : s_X7_does_tr Z tr p0 p1 p2 = tr := by rw [s_X7_does_tr]; (try rw [hr1]); (try rw [hr107]); (try rw [hr110]); rw [if_pos c2, if_pos c79, if_neg c108, if_pos c109, if_pos c111]
            exact k_zret kx hK hP88 hD89 hS87 (u := (Z, tr)) rfl ⟨er.symm, e0.symm, e1.symm⟩ kb0 dX7_does_98
        · skip
          by_cases c115 : p0 = 2
          · skip
            refine lv_tableIn (off := 70) (tgt := 111) hx hb dX7_does_41 (by rw [c115]; decide) (by rw [c115]; decide) (by rw [c115]; rfl) (by decide) ?_
            refine lv_aload_n hx hb dX7_does_111 rfl (lv_at hl86 3 rfl) ?_
            refine va_get (ci := 7) (v := .ref q5) (C := RX7) (T := TX7) (N := 22) hx hb ht inX7 hown hK.1 hP84 0 rfl rfl 8 (by decide) (ht _ q_674) (fun _ h9 => h9) rfl dX7_does_112 ?_
            refine lv_iload hx hb dX7_does_115 (lv_at hl86 0 rfl) ?_
            refine lv_if_eq (x := 0) (tgt := 130) hx hb dX7_does_117 (by decide) (fun (c116 : 0 = 0) => ?_) (fun (c116 : ¬ (0 = 0)) => absurd (by decide) c116)
            refine lv_bipush (v := 7) hx hb dX7_does_130 (by decide) ?_
            refine lv_dup2_11 hx hb dX7_does_132 rfl rfl ?_
            refine k_iald (v := (tr 7)) kx hK hP84 1 rfl 7 rfl (by decide) (by decide) rfl dX7_does_133 ?_
            refine lv_iload hx hb dX7_does_134 (lv_at hl86 0 rfl) ?_
            refine lv_if_eq (x := 0) (tgt := 143) hx hb dX7_does_136 (by decide) (fun (c117 : 0 = 0) => ?_) (fun (c117 : ¬ (0 = 0)) => absurd (by decide) c117)
            refine lv_iconst (v := 0) hx hb dX7_does_143 (by decide) ?_
            refine lv_ixor hx hb dX7_does_144 ?_
            refine k_iast kx hK hP84 hD85 hS83 1 rfl 7 rfl (by decide) (by decide) dX7_does_145 (fun H93 locs93 hP93 hD93 hS93 => ?_)
            have hP94 : va_P G.1 vwCl ([(h0, .inr (7, cM Z q1 q2 q3 q4 q5 q6 q7 q8 q9 q10 q11 sd)), (q5, .inl (G.2.1, 55, .inl (upd tr 7 ((tr 7) ^^^ 0))))]) H93 := hP93
            have hD95 : va_D A ([(h0, .inr (7, cM Z q1 q2 q3 q4 q5 q6 q7 q8 q9 q10 q11 sd)), (q5, .inl (G.2.1, 55, .inl (upd tr 7 ((tr 7) ^^^ 0))))]) := hD93
            refine lv_iload hx hb dX7_does_146 (lv_at hl86 0 rfl) ?_
            have er : r_X7_does tr p0 p1 p2 = 0 := by rw [r_X7_does]; (try rw [hr1]); (try rw [hr107]); rw [if_pos c2, if_pos c79, if_neg c108, if_neg c109, if_pos c115]
            have e0 : s_X7_does_Z Z tr p0 p1 p2 = Z := by rw [s_X7_does_Z]; (try rw [hr1]); (try rw [hr107]); rw [if_pos c2, if_pos c79, if_neg c108, if_neg c109, if_pos c115]
            have e1 : s_X7_does_tr Z tr p0 p1 p2 = upd tr 7 ((tr 7) ^^^ 0) := by rw [s_X7_does_tr]; (try rw [hr1]); (try rw [hr107]); rw [if_pos c2, if_pos c79, if_neg c108, if_neg c109, if_pos c115]
            exact k_zret kx hK hP94 hD95 hS93 (u := (Z, upd tr 7 ((tr 7) ^^^ 0))) rfl ⟨er.symm, e0.symm, e1.symm⟩ kb0 dX7_does_148
          · skip
            by_cases c118 : p0 = 3
            · skip
              refine lv_tableIn (off := 108) (tgt := 149) hx hb dX7_does_41 (by rw [c118]; decide) (by rw [c118]; decide) (by rw [c118]; rfl) (by decide) ?_
              refine lv_aload_n hx hb dX7_does_149 rfl (lv_at hl86 3 rfl) ?_
              refine va_get (ci := 7) (v := .ref q5) (C := RX7) (T := TX7) (N := 22) hx hb ht inX7 hown hK.1 hP84 0 rfl rfl 8 (by decide) (ht _ q_674) (fun _ h9 => h9) rfl dX7_does_150 ?_
              refine lv_iload hx hb dX7_does_153 (lv_at hl86 0 rfl) ?_
              refine lv_if_eq (x := 0) (tgt := 165) hx hb dX7_does_155 (by decide) (fun (c119 : 0 = 0) => ?_) (fun (c119 : ¬ (0 = 0)) => absurd (by decide) c119)
              refine lv_bipush (v := 32) hx hb dX7_does_165 (by decide) ?_
              refine lv_dup2_11 hx hb dX7_does_167 rfl rfl ?_
              refine k_iald (v := (tr 32)) kx hK hP84 1 rfl 32 rfl (by decide) (by decide) rfl dX7_does_168 ?_
              refine lv_iload hx hb dX7_does_169 (lv_at hl86 0 rfl) ?_
              refine lv_if_eq (x := 0) (tgt := 178) hx hb dX7_does_171 (by decide) (fun (c120 : 0 = 0) => ?_) (fun (c120 : ¬ (0 = 0)) => absurd (by decide) c120)
              refine lv_iconst (v := 0) hx hb dX7_does_178 (by decide) ?_
              refine lv_ixor hx hb dX7_does_179 ?_
              refine k_iast kx hK hP84 hD85 hS83 1 rfl 32 rfl (by decide) (by decide) dX7_does_180 (fun H96 locs96 hP96 hD96 hS96 => ?_)
              have hP97 : va_P G.1 vwCl ([(h0, .inr (7, cM Z q1 q2 q3 q4 q5 q6 q7 q8 q9 q10 q11 sd)), (q5, .inl (G.2.1, 55, .inl (upd tr 32 ((tr 32) ^^^ 0))))]) H96 := hP96
              have hD98 : va_D A ([(h0, .inr (7, cM Z q1 q2 q3 q4 q5 q6 q7 q8 q9 q10 q11 sd)), (q5, .inl (G.2.1, 55, .inl (upd tr 32 ((tr 32) ^^^ 0))))]) := hD96
              refine lv_iload hx hb dX7_does_181 (lv_at hl86 0 rfl) ?_
              have er : r_X7_does tr p0 p1 p2 = 0 := by rw [r_X7_does]; (try rw [hr1]); (try rw [hr107]); rw [if_pos c2, if_pos c79, if_neg c108, if_neg c109, if_neg c115, if_pos c118]
              have e0 : s_X7_does_Z Z tr p0 p1 p2 = Z := by rw [s_X7_does_Z]; (try rw [hr1]); (try rw [hr107]); rw [if_pos c2, if_pos c79, if_neg c108, if_neg c109, if_neg c115, if_pos c118]
              have e1 : s_X7_does_tr Z tr p0 p1 p2 = upd tr 32 ((tr 32) ^^^ 0) := by rw [s_X7_does_tr]; (try rw [hr1]); (try rw [hr107]); rw [if_pos c2, if_pos c79, if_neg c108, if_neg c109, if_neg c115, if_pos c118]
              exact k_zret kx hK hP97 hD98 hS96 (u := (Z, upd tr 32 ((tr 32) ^^^ 0))) rfl ⟨er.symm, e0.symm, e1.symm⟩ kb0 dX7_does_183
            · skip
              by_cases c121 : p0 = 4
              · skip
                refine lv_tableIn (off := 143) (tgt := 184) hx hb dX7_does_41 (by rw [c121]; decide) (by rw [c121]; decide) (by rw [c121]; rfl) (by decide) ?_
                refine lv_iload hx hb dX7_does_184 (lv_at hl86 0 rfl) ?_
                refine lv_if_eq (x := 0) (tgt := 203) hx hb dX7_does_186 (by decide) (fun (c122 : 0 = 0) => ?_) (fun (c122 : ¬ (0 = 0)) => absurd (by decide) c122)
                refine lv_iconst (v := 0) hx hb dX7_does_203 (by decide) ?_
                have er : r_X7_does tr p0 p1 p2 = 0 := by rw [r_X7_does]; (try rw [hr1]); (try rw [hr107]); rw [if_pos c2, if_pos c79, if_neg c108, if_neg c109, if_neg c115, if_neg c118, if_pos c121]
                have e0 : s_X7_does_Z Z tr p0 p1 p2 = Z := by rw [s_X7_does_Z]; (try rw [hr1]); (try rw [hr107]); rw [if_pos c2, if_pos c79, if_neg c108, if_neg c109, if_neg c115, if_neg c118, if_pos c121]
                have e1 : s_X7_does_tr Z tr p0 p1 p2 = tr := by rw [s_X7_does_tr]; (try rw [hr1]); (try rw [hr107]); rw [if_pos c2, if_pos c79, if_neg c108, if_neg c109, if_neg c115, if_neg c118, if_pos c121]
                exact k_zret kx hK hP84 hD85 hS83 (u := (Z, tr)) rfl ⟨er.symm, e0.symm, e1.symm⟩ kb0 dX7_does_204
              · skip
                by_cases c123 : p0 = 5
                · skip
                  refine lv_tableIn (off := 177) (tgt := 218) hx hb dX7_does_41 (by rw [c123]; decide) (by rw [c123]; decide) (by rw [c123]; rfl) (by decide) ?_
                  refine lv_iload hx hb dX7_does_218 (lv_at hl86 1 rfl) ?_
                  refine lv_if_eq (x := 1) (tgt := 242) hx hb dX7_does_220 (by decide) (fun (c124 : 1 = 0) => absurd c124 (by decide)) (fun (c124 : ¬ (1 = 0)) => ?_)
                  refine lv_aload_n hx hb dX7_does_223 rfl (lv_at hl86 3 rfl) ?_
                  refine va_get (ci := 7) (v := .ref q5) (C := RX7) (T := TX7) (N := 22) hx hb ht inX7 hown hK.1 hP84 0 rfl rfl 8 (by decide) (ht _ q_674) (fun _ h9 => h9) rfl dX7_does_224 ?_
                  refine lv_bipush (v := 16) hx hb dX7_does_227 (by decide) ?_
                  refine lv_iload_n hx hb dX7_does_229 rfl (lv_at hl86 5 rfl) ?_
                  refine k_top (y := 0) c79 ?_
                  refine lv_imul hx hb dX7_does_230 ?_
                  refine k_top (y := 0) (by decide +kernel) ?_
                  refine lv_iconst (v := 5) hx hb dX7_does_231 (by decide) ?_
                  refine lv_iadd hx hb dX7_does_232 ?_
                  refine k_top (y := 5) (by decide +kernel) ?_
                  refine k_iald (v := (tr 5)) kx hK hP84 1 rfl 5 rfl (by decide) (by decide) rfl dX7_does_233 ?_
                  refine lv_iload_n hx hb dX7_does_234 rfl (lv_at hl86 6 rfl) ?_
                  refine lv_icmp_ne (x := tr 5) (y := p2) (tgt := 242) hx hb dX7_does_235 (by decide) (fun (c126 : ¬ (tr 5 = p2)) => ?_) (fun (c126 : tr 5 = p2) => ?_)
                  · skip
                    refine lv_iconst (v := 0) hx hb dX7_does_242 (by decide) ?_
                    have er : r_X7_does tr p0 p1 p2 = 0 := by rw [r_X7_does]; (try rw [hr1]); (try rw [hr107]); rw [if_pos c2, if_pos c79, if_neg c108, if_neg c109, if_neg c115, if_neg c118, if_neg c121, if_pos c123, if_neg c126]
                    have e0 : s_X7_does_Z Z tr p0 p1 p2 = Z := by rw [s_X7_does_Z]; (try rw [hr1]); (try rw [hr107]); rw [if_pos c2, if_pos c79, if_neg c108, if_neg c109, if_neg c115, if_neg c118, if_neg c121, if_pos c123, if_neg c126]
                    have e1 : s_X7_does_tr Z tr p0 p1 p2 = tr := by rw [s_X7_does_tr]; (try rw [hr1]); (try rw [hr107]); rw [if_pos c2, if_pos c79, if_neg c108, if_neg c109, if_neg c115, if_neg c118, if_neg c121, if_pos c123, if_neg c126]
                    exact k_zret kx hK hP84 hD85 hS83 (u := (Z, tr)) rfl ⟨er.symm, e0.symm, e1.symm⟩ kb0 dX7_does_243
                  · skip
                    refine lv_iconst (v := 1) hx hb dX7_does_238 (by decide) ?_
                    refine lv_goto (tgt := 243) hx hb dX7_does_239 (by decide) ?_
                    have er : r_X7_does tr p0 p1 p2 = 1 := by rw [r_X7_does]; (try rw [hr1]); (try rw [hr107]); rw [if_pos c2, if_pos c79, if_neg c108, if_neg c109, if_neg c115, if_neg c118, if_neg c121, if_pos c123, if_pos c126]
                    have e0 : s_X7_does_Z Z tr p0 p1 p2 = Z := by rw [s_X7_does_Z]; (try rw [hr1]); (try rw [hr107]); rw [if_pos c2, if_pos c79, if_neg c108, if_neg c109, if_neg c115, if_neg c118, if_neg c121, if_pos c123, if_pos c126]
                    have e1 : s_X7_does_tr Z tr p0 p1 p2 = tr := by rw [s_X7_does_tr]; (try rw [hr1]); (try rw [hr107]); rw [if_pos c2, if_pos c79, if_neg c108, if_neg c109, if_neg c115, if_neg c118, if_neg c121, if_pos c123, if_pos c126]
                    exact k_zret kx hK hP84 hD85 hS83 (u := (Z, tr)) rfl ⟨er.symm, e0.symm, e1.symm⟩ kb1 dX7_does_243
                · skip
                  by_cases c127 : p0 = 6
                  · skip
                    refine lv_tableIn (off := 203) (tgt := 244) hx hb dX7_does_41 (by rw [c127]; decide) (by rw [c127]; decide) (by rw [c127]; rfl) (by decide) ?_
                    refine lv_iload hx hb dX7_does_244 (lv_at hl86 1 rfl) ?_
                    refine lv_if_eq (x := 1) (tgt := 269) hx hb dX7_does_246 (by decide) (fun (c128 : 1 = 0) => absurd c128 (by decide)) (fun (c128 : ¬ (1 = 0)) => ?_)
                    refine lv_aload_n hx hb dX7_does_249 rfl (lv_at hl86 3 rfl) ?_
                    refine va_get (ci := 7) (v := .ref q5) (C := RX7) (T := TX7) (N := 22) hx hb ht inX7 hown hK.1 hP84 0 rfl rfl 8 (by decide) (ht _ q_674) (fun _ h9 => h9) rfl dX7_does_250 ?_
                    refine lv_bipush (v := 16) hx hb dX7_does_253 (by decide) ?_
                    refine lv_iload_n hx hb dX7_does_255 rfl (lv_at hl86 5 rfl) ?_
                    refine k_top (y := 0) c79 ?_
                    refine lv_imul hx hb dX7_does_256 ?_
                    refine k_top (y := 0) (by decide +kernel) ?_
                    refine lv_bipush (v := 6) hx hb dX7_does_257 (by decide) ?_
                    refine lv_iadd hx hb dX7_does_259 ?_
                    refine k_top (y := 6) (by decide +kernel) ?_
                    refine k_iald (v := (tr 6)) kx hK hP84 1 rfl 6 rfl (by decide) (by decide) rfl dX7_does_260 ?_
                    refine lv_iload_n hx hb dX7_does_261 rfl (lv_at hl86 6 rfl) ?_
                    refine lv_icmp_ne (x := tr 6) (y := p2) (tgt := 269) hx hb dX7_does_262 (by decide) (fun (c130 : ¬ (tr 6 = p2)) => ?_) (fun (c130 : tr 6 = p2) => ?_)
                    · skip
                      refine lv_iconst (v := 0) hx hb dX7_does_269 (by decide) ?_
                      have er : r_X7_does tr p0 p1 p2 = 0 := by rw [r_X7_does]; (try rw [hr1]); (try rw [hr107]); rw [if_pos c2, if_pos c79, if_neg c108, if_neg c109, if_neg c115, if_neg c118, if_neg c121, if_neg c123, if_pos c127, if_neg c130]
                      have e0 : s_X7_does_Z Z tr p0 p1 p2 = Z := by rw [s_X7_does_Z]; (try rw [hr1]); (try rw [hr107]); rw [if_pos c2, if_pos c79, if_neg c108, if_neg c109, if_neg c115, if_neg c118, if_neg c121, if_neg c123, if_pos c127, if_neg c130]
                      have e1 : s_X7_does_tr Z tr p0 p1 p2 = tr := by rw [s_X7_does_tr]; (try rw [hr1]); (try rw [hr107]); rw [if_pos c2, if_pos c79, if_neg c108, if_neg c109, if_neg c115, if_neg c118, if_neg c121, if_neg c123, if_pos c127, if_neg c130]
                      exact k_zret kx hK hP84 hD85 hS83 (u := (Z, tr)) rfl ⟨er.symm, e0.symm, e1.symm⟩ kb0 dX7_does_270
                    · skip
                      refine lv_iconst (v := 1) hx hb dX7_does_265 (by decide) ?_
                      refine lv_goto (tgt := 270) hx hb dX7_does_266 (by decide) ?_
                      have er : r_X7_does tr p0 p1 p2 = 1 := by rw [r_X7_does]; (try rw [hr1]); (try rw [hr107]); rw [if_pos c2, if_pos c79, if_neg c108, if_neg c109, if_neg c115, if_neg c118, if_neg c121, if_neg c123, if_pos c127, if_pos c130]
                      have e0 : s_X7_does_Z Z tr p0 p1 p2 = Z := by rw [s_X7_does_Z]; (try rw [hr1]); (try rw [hr107]); rw [if_pos c2, if_pos c79, if_neg c108, if_neg c109, if_neg c115, if_neg c118, if_neg c121, if_neg c123, if_pos c127, if_pos c130]
                      have e1 : s_X7_does_tr Z tr p0 p1 p2 = tr := by rw [s_X7_does_tr]; (try rw [hr1]); (try rw [hr107]); rw [if_pos c2, if_pos c79, if_neg c108, if_neg c109, if_neg c115, if_neg c118, if_neg c121, if_neg c123, if_pos c127, if_pos c130]
                      exact k_zret kx hK hP84 hD85 hS83 (u := (Z, tr)) rfl ⟨er.symm, e0.symm, e1.symm⟩ kb1 dX7_does_270
                  · skip
                    by_cases c131 : p0 = 7
                    · skip
                      refine lv_tableIn (off := 230) (tgt := 271) hx hb dX7_does_41 (by rw [c131]; decide) (by rw [c131]; decide) (by rw [c131]; rfl) (by decide) ?_
                      refine lv_iload hx hb dX7_does_271 (lv_at hl86 1 rfl) ?_
                      refine lv_if_eq (x := 1) (tgt := 295) hx hb dX7_does_273 (by decide) (fun (c132 : 1 = 0) => absurd c132 (by decide)) (fun (c132 : ¬ (1 = 0)) => ?_)
                      refine lv_aload_n hx hb dX7_does_276 rfl (lv_at hl86 3 rfl) ?_
                      refine va_get (ci := 7) (v := .ref q5) (C := RX7) (T := TX7) (N := 22) hx hb ht inX7 hown hK.1 hP84 0 rfl rfl 8 (by decide) (ht _ q_674) (fun _ h9 => h9) rfl dX7_does_277 ?_
                      refine lv_bipush (v := 16) hx hb dX7_does_280 (by decide) ?_
                      refine lv_iload_n hx hb dX7_does_282 rfl (lv_at hl86 5 rfl) ?_
                      refine k_top (y := 0) c79 ?_
                      refine lv_imul hx hb dX7_does_283 ?_
                      refine k_top (y := 0) (by decide +kernel) ?_
                      refine k_calli (kRunS (As := [.ref q5, .int 0]) (rest := []) kx (c_X7_paceOn_0 l G tr q5) q_817 q_815 q_36 q_816 nX7_paceOn ⟨Nat.le_of_ble_eq_true rfl, Nat.le_of_ble_eq_true rfl⟩ hK hP84 hD85 (kCtx_places _ _ [1] rfl rfl) rfl hl86.1 (Nat.le_of_ble_eq_true rfl) dX7_does_284 ⟨Nat.zero_le _, Nat.zero_le _⟩) hP84 hD85 hS83 hA (kCtx_places _ _ [1] rfl rfl) (fun _ => rfl) (fun r134 _ H99 locs99 hw hP99 hD99 hS99 => ?_)
                      have hr134 : r_X7_paceOn_0 tr = r134 := (show r134 = r_X7_paceOn_0 tr from hw).symm
                      have hP100 : va_P G.1 vwCl ([(h0, .inr (7, cM Z q1 q2 q3 q4 q5 q6 q7 q8 q9 q10 q11 sd)), (q5, .inl (G.2.1, 55, .inl tr))]) H99 := hP99
                      have hD101 : va_D A ([(h0, .inr (7, cM Z q1 q2 q3 q4 q5 q6 q7 q8 q9 q10 q11 sd)), (q5, .inl (G.2.1, 55, .inl tr))]) := hD99
                      refine lv_iload_n hx hb dX7_does_287 rfl (lv_at hl86 6 rfl) ?_
                      refine lv_icmp_ne (x := r134) (y := p2) (tgt := 295) hx hb dX7_does_288 (by decide) (fun (c135 : ¬ (r134 = p2)) => ?_) (fun (c135 : r134 = p2) => ?_)
                      · skip
                        refine lv_iconst (v := 0) hx hb dX7_does_295 (by decide) ?_
                        have er : r_X7_does tr p0 p1 p2 = 0 := by rw [r_X7_does]; (try rw [hr1]); (try rw [hr107]); (try rw [hr134]); rw [if_pos c2, if_pos c79, if_neg c108, if_neg c109, if_neg c115, if_neg c118, if_neg c121, if_neg c123, if_neg c127, if_pos c131, if_neg c135]
                        have e0 : s_X7_does_Z Z tr p0 p1 p2 = Z := by rw [s_X7_does_Z]; (try rw [hr1]); (try rw [hr107]); (try rw [hr134]); rw [if_pos c2, if_pos c79, if_neg c108, if_neg c109, if_neg c115, if_neg c118, if_neg c121, if_neg c123, if_neg c127, if_pos c131, if_neg c135]
                        have e1 : s_X7_does_tr Z tr p0 p1 p2 = tr := by rw [s_X7_does_tr]; (try rw [hr1]); (try rw [hr107]); (try rw [hr134]); rw [if_pos c2, if_pos c79, if_neg c108, if_neg c109, if_neg c115, if_neg c118, if_neg c121, if_neg c123, if_neg c127, if_pos c131, if_neg c135]
                        exact k_zret kx hK hP100 hD101 hS99 (u := (Z, tr)) rfl ⟨er.symm, e0.symm, e1.symm⟩ kb0 dX7_does_296
                      · skip
                        refine lv_iconst (v := 1) hx hb dX7_does_291 (by decide) ?_
                        refine lv_goto (tgt := 296) hx hb dX7_does_292 (by decide) ?_
                        have er : r_X7_does tr p0 p1 p2 = 1 := by rw [r_X7_does]; (try rw [hr1]); (try rw [hr107]); (try rw [hr134]); rw [if_pos c2, if_pos c79, if_neg c108, if_neg c109, if_neg c115, if_neg c118, if_neg c121, if_neg c123, if_neg c127, if_pos c131, if_pos c135]
                        have e0 : s_X7_does_Z Z tr p0 p1 p2 = Z := by rw [s_X7_does_Z]; (try rw [hr1]); (try rw [hr107]); (try rw [hr134]); rw [if_pos c2, if_pos c79, if_neg c108, if_neg c109, if_neg c115, if_neg c118, if_neg c121, if_neg c123, if_neg c127, if_pos c131, if_pos c135]
                        have e1 : s_X7_does_tr Z tr p0 p1 p2 = tr := by rw [s_X7_does_tr]; (try rw [hr1]); (try rw [hr107]); (try rw [hr134]); rw [if_pos c2, if_pos c79, if_neg c108, if_neg c109, if_neg c115, if_neg c118, if_neg c121, if_neg c123, if_neg c127, if_pos c131, if_pos c135]
                        exact k_zret kx hK hP100 hD101 hS99 (u := (Z, tr)) rfl ⟨er.symm, e0.symm, e1.symm⟩ kb1 dX7_does_296
                    · skip
                      have nc109 := lv_neT (a := 1) c109 (by decide)
                      have nc115 := lv_neT (a := 2) c115 (by decide)
                      have nc118 := lv_neT (a := 3) c118 (by decide)
                      have nc121 := lv_neT (a := 4) c121 (by decide)
                      have nc123 := lv_neT (a := 5) c123 (by decide)
                      have nc127 := lv_neT (a := 6) c127 (by decide)
                      have nc131 := lv_neT (a := 7) c131 (by decide)
                      refine lv_tableOut (tgt := 297) hx hb dX7_does_41 (by omega) (by decide) ?_
                      refine lv_iconst (v := 0) hx hb dX7_does_297 (by decide) ?_
                      have er : r_X7_does tr p0 p1 p2 = 0 := by rw [r_X7_does]; (try rw [hr1]); (try rw [hr107]); rw [if_pos c2, if_pos c79, if_neg c108, if_neg c109, if_neg c115, if_neg c118, if_neg c121, if_neg c123, if_neg c127, if_neg c131]
                      have e0 : s_X7_does_Z Z tr p0 p1 p2 = Z := by rw [s_X7_does_Z]; (try rw [hr1]); (try rw [hr107]); rw [if_pos c2, if_pos c79, if_neg c108, if_neg c109, if_neg c115, if_neg c118, if_neg c121, if_neg c123, if_neg c127, if_neg c131]
                      have e1 : s_X7_does_tr Z tr p0 p1 p2 = tr := by rw [s_X7_does_tr]; (try rw [hr1]); (try rw [hr107]); rw [if_pos c2, if_pos c79, if_neg c108, if_neg c109, if_neg c115, if_neg c118, if_neg c121, if_neg c123, if_neg c127, if_neg c131]
                      exact k_zret kx hK hP84 hD85 hS83 (u := (Z, tr)) rfl ⟨er.symm, e0.symm, e1.symm⟩ kb0 dX7_does_298
      · skip
        refine lv_iconst (v := 1) hx hb dX7_does_33 (by decide) ?_
        refine lv_goto (tgt := 38) hx hb dX7_does_34 (by decide) ?_
        refine lv_istore (lv' := [(6, .int 1), (5, .int 1), (4, .int ((10 * p1) + p2)), (0, .ref h0), (1, .int p0), (2, .int p1), (3, .int p2)]) hx hb dX7_does_38 hl66 (by decide) rfl (fun ls102 hl102 => ?_)
        refine lv_iload_n hx hb dX7_does_40 rfl (lv_at hl102 4 rfl) ?_
        by_cases c136 : p0 = 1
        · skip
          refine lv_tableIn (off := 43) (tgt := 84) hx hb dX7_does_41 (by rw [c136]; decide) (by rw [c136]; decide) (by rw [c136]; rfl) (by decide) ?_
          refine lv_iload hx hb dX7_does_84 (lv_at hl102 2 rfl) ?_
          refine lv_i2l (v := ((10 * p1) + p2).toInt64) hx hb dX7_does_86 rfl ?_
          refine lv_lconst (v := 1) hx hb dX7_does_87 (by decide) ?_
          refine lv_ldc2 (v := 30) hx hb hown (ht _ q_851) dX7_does_88 ?_
          refine k_calli (kRunS (As := [.long (((10 * p1) + p2).toInt64), .long 1, .long 30]) (rest := []) kx (c_X7_in l G (((10 * p1) + p2).toInt64) 1 30) q_740 q_738 q_36 q_739 nX7_in ⟨Nat.le_of_ble_eq_true rfl, Nat.le_of_ble_eq_true rfl⟩ hK hP84 hD85 (kCtx_nil _) rfl hl102.1 (Nat.le_of_ble_eq_true rfl) dX7_does_91 ⟨Nat.zero_le _, Nat.zero_le _⟩) hP84 hD85 hS83 hA (kCtx_nil _) (fun _ => rfl) (fun r137 _ H103 locs103 hw hP103 hD103 hS103 => ?_)
          have hr137 : r_X7_in (((10 * p1) + p2).toInt64) 1 30 = r137 := (show r137 = r_X7_in (((10 * p1) + p2).toInt64) 1 30 from hw).symm
          have hP104 : va_P G.1 vwCl ([(h0, .inr (7, cM Z q1 q2 q3 q4 q5 q6 q7 q8 q9 q10 q11 sd)), (q5, .inl (G.2.1, 55, .inl tr))]) H103 := hP103
          have hD105 : va_D A ([(h0, .inr (7, cM Z q1 q2 q3 q4 q5 q6 q7 q8 q9 q10 q11 sd)), (q5, .inl (G.2.1, 55, .inl tr))]) := hD103
          refine lv_if_ne (x := r137) (tgt := 99) hx hb dX7_does_94 (by decide) (fun (c138 : ¬ (r137 = 0)) => ?_) (fun (c138 : r137 = 0) => ?_)
          · skip
            refine lv_aload_n hx hb dX7_does_99 rfl (lv_at hl102 3 rfl) ?_
            refine lv_aload_n hx hb dX7_does_100 rfl (lv_at hl102 3 rfl) ?_
            refine va_get (ci := 7) (v := .ref q5) (C := RX7) (T := TX7) (N := 22) hx hb ht inX7 hown hK.1 hP104 0 rfl rfl 8 (by decide) (ht _ q_674) (fun _ h9 => h9) rfl dX7_does_101 ?_
            refine lv_iload hx hb dX7_does_104 (lv_at hl102 2 rfl) ?_
            refine k_callv (kRunV (As := [.ref q5, .int ((10 * p1) + p2)]) (rest := []) kx (c_X7_goFor l G Z sd h0 q1 q2 q3 q4 q5 q6 q7 q8 q9 q10 q11 tr q5 ((10 * p1) + p2)) q_778 q_775 q_36 q_777 q_17 nX7_goFor ⟨Nat.le_of_ble_eq_true rfl, Nat.le_of_ble_eq_true rfl⟩ hK hP104 hD105 (kCtx_all _) 0 7 rfl rfl rfl rfl hl102.1 (Nat.le_of_ble_eq_true rfl) dX7_does_106 ⟨Nat.zero_le _, Nat.zero_le _⟩) hP104 hD105 hS103 hA (kCtx_all _) (fun _ => rfl) (fun u H106 locs106 hw hP106 hD106 hS106 => ?_)
            obtain ⟨F140, F141⟩ := u
            obtain ⟨hF140, hF141⟩ := hw
            have hF140 : s_X7_goFor_Z Z tr ((10 * p1) + p2) = F140 := (show F140 = s_X7_goFor_Z Z tr ((10 * p1) + p2) from hF140).symm
            have hF141 : s_X7_goFor_f Z tr ((10 * p1) + p2) = F141 := (show F141 = s_X7_goFor_f Z tr ((10 * p1) + p2) from hF141).symm
            have hP107 : va_P G.1 vwCl ([(h0, .inr (7, cM F140 q1 q2 q3 q4 q5 q6 q7 q8 q9 q10 q11 sd)), (q5, .inl (G.2.1, 55, .inl F141))]) H106 := hP106
            have hD108 : va_D A ([(h0, .inr (7, cM F140 q1 q2 q3 q4 q5 q6 q7 q8 q9 q10 q11 sd)), (q5, .inl (G.2.1, 55, .inl F141))]) := hD106
            refine lv_iconst (v := 1) hx hb dX7_does_109 (by decide) ?_
            have er : r_X7_does tr p0 p1 p2 = 1 := by rw [r_X7_does]; (try rw [hr1]); (try rw [hr107]); (try rw [hr137]); (try rw [hF140]); (try rw [hF141]); rw [if_pos c2, if_pos c79, if_pos c108, if_pos c136, if_neg c138]
            have e0 : s_X7_does_Z Z tr p0 p1 p2 = F140 := by rw [s_X7_does_Z]; (try rw [hr1]); (try rw [hr107]); (try rw [hr137]); (try rw [hF140]); (try rw [hF141]); rw [if_pos c2, if_pos c79, if_pos c108, if_pos c136, if_neg c138]
            have e1 : s_X7_does_tr Z tr p0 p1 p2 = F141 := by rw [s_X7_does_tr]; (try rw [hr1]); (try rw [hr107]); (try rw [hr137]); (try rw [hF140]); (try rw [hF141]); rw [if_pos c2, if_pos c79, if_pos c108, if_pos c136, if_neg c138]
            exact k_zret kx hK hP107 hD108 hS106 (u := (F140, F141)) rfl ⟨er.symm, e0.symm, e1.symm⟩ kb1 dX7_does_110
          · skip
            refine lv_iconst (v := 0) hx hb dX7_does_97 (by decide) ?_
            have er : r_X7_does tr p0 p1 p2 = 0 := by rw [r_X7_does]; (try rw [hr1]); (try rw [hr107]); (try rw [hr137]); rw [if_pos c2, if_pos c79, if_pos c108, if_pos c136, if_pos c138]
            have e0 : s_X7_does_Z Z tr p0 p1 p2 = Z := by rw [s_X7_does_Z]; (try rw [hr1]); (try rw [hr107]); (try rw [hr137]); rw [if_pos c2, if_pos c79, if_pos c108, if_pos c136, if_pos c138]
            have e1 : s_X7_does_tr Z tr p0 p1 p2 = tr := by rw [s_X7_does_tr]; (try rw [hr1]); (try rw [hr107]); (try rw [hr137]); rw [if_pos c2, if_pos c79, if_pos c108, if_pos c136, if_pos c138]
            exact k_zret kx hK hP104 hD105 hS103 (u := (Z, tr)) rfl ⟨er.symm, e0.symm, e1.symm⟩ kb0 dX7_does_98
        · skip
          by_cases c142 : p0 = 2
          · skip
            refine lv_tableIn (off := 70) (tgt := 111) hx hb dX7_does_41 (by rw [c142]; decide) (by rw [c142]; decide) (by rw [c142]; rfl) (by decide) ?_
            refine lv_aload_n hx hb dX7_does_111 rfl (lv_at hl102 3 rfl) ?_
            refine va_get (ci := 7) (v := .ref q5) (C := RX7) (T := TX7) (N := 22) hx hb ht inX7 hown hK.1 hP84 0 rfl rfl 8 (by decide) (ht _ q_674) (fun _ h9 => h9) rfl dX7_does_112 ?_
            refine lv_iload hx hb dX7_does_115 (lv_at hl102 0 rfl) ?_
            refine lv_if_eq (x := 1) (tgt := 130) hx hb dX7_does_117 (by decide) (fun (c143 : 1 = 0) => absurd c143 (by decide)) (fun (c143 : ¬ (1 = 0)) => ?_)
            refine lv_bipush (v := 16) hx hb dX7_does_120 (by decide) ?_
            refine lv_iload_n hx hb dX7_does_122 rfl (lv_at hl102 6 rfl) ?_
            by_cases c144 : p2 = 0
            · skip
              refine k_top (y := 0) c144 ?_
              refine lv_imul hx hb dX7_does_123 ?_
              refine k_top (y := 0) (by decide +kernel) ?_
              refine lv_bipush (v := 7) hx hb dX7_does_124 (by decide) ?_
              refine lv_iadd hx hb dX7_does_126 ?_
              refine k_top (y := 7) (by decide +kernel) ?_
              refine lv_goto (tgt := 132) hx hb dX7_does_127 (by decide) ?_
              refine lv_dup2_11 hx hb dX7_does_132 rfl rfl ?_
              refine k_iald (v := (tr 7)) kx hK hP84 1 rfl 7 rfl (by decide) (by decide) rfl dX7_does_133 ?_
              refine lv_iload hx hb dX7_does_134 (lv_at hl102 0 rfl) ?_
              refine lv_if_eq (x := 1) (tgt := 143) hx hb dX7_does_136 (by decide) (fun (c145 : 1 = 0) => absurd c145 (by decide)) (fun (c145 : ¬ (1 = 0)) => ?_)
              refine lv_iconst (v := 1) hx hb dX7_does_139 (by decide) ?_
              refine lv_goto (tgt := 144) hx hb dX7_does_140 (by decide) ?_
              refine lv_ixor hx hb dX7_does_144 ?_
              refine k_iast kx hK hP84 hD85 hS83 1 rfl 7 rfl (by decide) (by decide) dX7_does_145 (fun H109 locs109 hP109 hD109 hS109 => ?_)
              have hP110 : va_P G.1 vwCl ([(h0, .inr (7, cM Z q1 q2 q3 q4 q5 q6 q7 q8 q9 q10 q11 sd)), (q5, .inl (G.2.1, 55, .inl (upd tr 7 ((tr 7) ^^^ 1))))]) H109 := hP109
              have hD111 : va_D A ([(h0, .inr (7, cM Z q1 q2 q3 q4 q5 q6 q7 q8 q9 q10 q11 sd)), (q5, .inl (G.2.1, 55, .inl (upd tr 7 ((tr 7) ^^^ 1))))]) := hD109
              refine lv_iload hx hb dX7_does_146 (lv_at hl102 0 rfl) ?_
              have er : r_X7_does tr p0 p1 p2 = 1 := by rw [r_X7_does]; (try rw [hr1]); (try rw [hr107]); rw [if_pos c2, if_pos c79, if_pos c108, if_neg c136, if_pos c142, if_pos c144]
              have e0 : s_X7_does_Z Z tr p0 p1 p2 = Z := by rw [s_X7_does_Z]; (try rw [hr1]); (try rw [hr107]); rw [if_pos c2, if_pos c79, if_pos c108, if_neg c136, if_pos c142, if_pos c144]
              have e1 : s_X7_does_tr Z tr p0 p1 p2 = upd tr 7 ((tr 7) ^^^ 1) := by rw [s_X7_does_tr]; (try rw [hr1]); (try rw [hr107]); rw [if_pos c2, if_pos c79, if_pos c108, if_neg c136, if_pos c142, if_pos c144]
              exact k_zret kx hK hP110 hD111 hS109 (u := (Z, upd tr 7 ((tr 7) ^^^ 1))) rfl ⟨er.symm, e0.symm, e1.symm⟩ kb1 dX7_does_148
            · skip
              refine k_top (y := 1) (k01e hr107 c108 c144) ?_
              refine lv_imul hx hb dX7_does_123 ?_
              refine k_top (y := 16) (by decide +kernel) ?_
              refine lv_bipush (v := 7) hx hb dX7_does_124 (by decide) ?_
              refine lv_iadd hx hb dX7_does_126 ?_
              refine k_top (y := 23) (by decide +kernel) ?_
              refine lv_goto (tgt := 132) hx hb dX7_does_127 (by decide) ?_
              refine lv_dup2_11 hx hb dX7_does_132 rfl rfl ?_
              refine k_iald (v := (tr 23)) kx hK hP84 1 rfl 23 rfl (by decide) (by decide) rfl dX7_does_133 ?_
              refine lv_iload hx hb dX7_does_134 (lv_at hl102 0 rfl) ?_
              refine lv_if_eq (x := 1) (tgt := 143) hx hb dX7_does_136 (by decide) (fun (c146 : 1 = 0) => absurd c146 (by decide)) (fun (c146 : ¬ (1 = 0)) => ?_)
              refine lv_iconst (v := 1) hx hb dX7_does_139 (by decide) ?_
              refine lv_goto (tgt := 144) hx hb dX7_does_140 (by decide) ?_
              refine lv_ixor hx hb dX7_does_144 ?_
              refine k_iast kx hK hP84 hD85 hS83 1 rfl 23 rfl (by decide) (by decide) dX7_does_145 (fun H112 locs112 hP112 hD112 hS112 => ?_)
              have hP113 : va_P G.1 vwCl ([(h0, .inr (7, cM Z q1 q2 q3 q4 q5 q6 q7 q8 q9 q10 q11 sd)), (q5, .inl (G.2.1, 55, .inl (upd tr 23 ((tr 23) ^^^ 1))))]) H112 := hP112
              have hD114 : va_D A ([(h0, .inr (7, cM Z q1 q2 q3 q4 q5 q6 q7 q8 q9 q10 q11 sd)), (q5, .inl (G.2.1, 55, .inl (upd tr 23 ((tr 23) ^^^ 1))))]) := hD112
              refine lv_iload hx hb dX7_does_146 (lv_at hl102 0 rfl) ?_
              have er : r_X7_does tr p0 p1 p2 = 1 := by rw [r_X7_does]; (try rw [hr1]); (try rw [hr107]); rw [if_pos c2, if_pos c79, if_pos c108, if_neg c136, if_pos c142, if_neg c144]
              have e0 : s_X7_does_Z Z tr p0 p1 p2 = Z := by rw [s_X7_does_Z]; (try rw [hr1]); (try rw [hr107]); rw [if_pos c2, if_pos c79, if_pos c108, if_neg c136, if_pos c142, if_neg c144]
              have e1 : s_X7_does_tr Z tr p0 p1 p2 = upd tr 23 ((tr 23) ^^^ 1) := by rw [s_X7_does_tr]; (try rw [hr1]); (try rw [hr107]); rw [if_pos c2, if_pos c79, if_pos c108, if_neg c136, if_pos c142, if_neg c144]
              exact k_zret kx hK hP113 hD114 hS112 (u := (Z, upd tr 23 ((tr 23) ^^^ 1))) rfl ⟨er.symm, e0.symm, e1.symm⟩ kb1 dX7_does_148
          · skip
            by_cases c147 : p0 = 3
            · skip
              refine lv_tableIn (off := 108) (tgt := 149) hx hb dX7_does_41 (by rw [c147]; decide) (by rw [c147]; decide) (by rw [c147]; rfl) (by decide) ?_
              refine lv_aload_n hx hb dX7_does_149 rfl (lv_at hl102 3 rfl) ?_
              refine va_get (ci := 7) (v := .ref q5) (C := RX7) (T := TX7) (N := 22) hx hb ht inX7 hown hK.1 hP84 0 rfl rfl 8 (by decide) (ht _ q_674) (fun _ h9 => h9) rfl dX7_does_150 ?_
              refine lv_iload hx hb dX7_does_153 (lv_at hl102 0 rfl) ?_
              refine lv_if_eq (x := 1) (tgt := 165) hx hb dX7_does_155 (by decide) (fun (c148 : 1 = 0) => absurd c148 (by decide)) (fun (c148 : ¬ (1 = 0)) => ?_)
              refine lv_bipush (v := 32) hx hb dX7_does_158 (by decide) ?_
              refine lv_iload_n hx hb dX7_does_160 rfl (lv_at hl102 6 rfl) ?_
              by_cases c149 : p2 = 0
              · skip
                refine k_top (y := 0) c149 ?_
                refine lv_iadd hx hb dX7_does_161 ?_
                refine k_top (y := 32) (by decide +kernel) ?_
                refine lv_goto (tgt := 167) hx hb dX7_does_162 (by decide) ?_
                refine lv_dup2_11 hx hb dX7_does_167 rfl rfl ?_
                refine k_iald (v := (tr 32)) kx hK hP84 1 rfl 32 rfl (by decide) (by decide) rfl dX7_does_168 ?_
                refine lv_iload hx hb dX7_does_169 (lv_at hl102 0 rfl) ?_
                refine lv_if_eq (x := 1) (tgt := 178) hx hb dX7_does_171 (by decide) (fun (c150 : 1 = 0) => absurd c150 (by decide)) (fun (c150 : ¬ (1 = 0)) => ?_)
                refine lv_iconst (v := 1) hx hb dX7_does_174 (by decide) ?_
                refine lv_goto (tgt := 179) hx hb dX7_does_175 (by decide) ?_
                refine lv_ixor hx hb dX7_does_179 ?_
                refine k_iast kx hK hP84 hD85 hS83 1 rfl 32 rfl (by decide) (by decide) dX7_does_180 (fun H115 locs115 hP115 hD115 hS115 => ?_)
                have hP116 : va_P G.1 vwCl ([(h0, .inr (7, cM Z q1 q2 q3 q4 q5 q6 q7 q8 q9 q10 q11 sd)), (q5, .inl (G.2.1, 55, .inl (upd tr 32 ((tr 32) ^^^ 1))))]) H115 := hP115
                have hD117 : va_D A ([(h0, .inr (7, cM Z q1 q2 q3 q4 q5 q6 q7 q8 q9 q10 q11 sd)), (q5, .inl (G.2.1, 55, .inl (upd tr 32 ((tr 32) ^^^ 1))))]) := hD115
                refine lv_iload hx hb dX7_does_181 (lv_at hl102 0 rfl) ?_
                have er : r_X7_does tr p0 p1 p2 = 1 := by rw [r_X7_does]; (try rw [hr1]); (try rw [hr107]); rw [if_pos c2, if_pos c79, if_pos c108, if_neg c136, if_neg c142, if_pos c147, if_pos c149]
                have e0 : s_X7_does_Z Z tr p0 p1 p2 = Z := by rw [s_X7_does_Z]; (try rw [hr1]); (try rw [hr107]); rw [if_pos c2, if_pos c79, if_pos c108, if_neg c136, if_neg c142, if_pos c147, if_pos c149]
                have e1 : s_X7_does_tr Z tr p0 p1 p2 = upd tr 32 ((tr 32) ^^^ 1) := by rw [s_X7_does_tr]; (try rw [hr1]); (try rw [hr107]); rw [if_pos c2, if_pos c79, if_pos c108, if_neg c136, if_neg c142, if_pos c147, if_pos c149]
                exact k_zret kx hK hP116 hD117 hS115 (u := (Z, upd tr 32 ((tr 32) ^^^ 1))) rfl ⟨er.symm, e0.symm, e1.symm⟩ kb1 dX7_does_183
              · skip
                refine k_top (y := 1) (k01e hr107 c108 c149) ?_
                refine lv_iadd hx hb dX7_does_161 ?_
                refine k_top (y := 33) (by decide +kernel) ?_
                refine lv_goto (tgt := 167) hx hb dX7_does_162 (by decide) ?_
                refine lv_dup2_11 hx hb dX7_does_167 rfl rfl ?_
                refine k_iald (v := (tr 33)) kx hK hP84 1 rfl 33 rfl (by decide) (by decide) rfl dX7_does_168 ?_
                refine lv_iload hx hb dX7_does_169 (lv_at hl102 0 rfl) ?_
                refine lv_if_eq (x := 1) (tgt := 178) hx hb dX7_does_171 (by decide) (fun (c151 : 1 = 0) => absurd c151 (by decide)) (fun (c151 : ¬ (1 = 0)) => ?_)
                refine lv_iconst (v := 1) hx hb dX7_does_174 (by decide) ?_
                refine lv_goto (tgt := 179) hx hb dX7_does_175 (by decide) ?_
                refine lv_ixor hx hb dX7_does_179 ?_
                refine k_iast kx hK hP84 hD85 hS83 1 rfl 33 rfl (by decide) (by decide) dX7_does_180 (fun H118 locs118 hP118 hD118 hS118 => ?_)
                have hP119 : va_P G.1 vwCl ([(h0, .inr (7, cM Z q1 q2 q3 q4 q5 q6 q7 q8 q9 q10 q11 sd)), (q5, .inl (G.2.1, 55, .inl (upd tr 33 ((tr 33) ^^^ 1))))]) H118 := hP118
                have hD120 : va_D A ([(h0, .inr (7, cM Z q1 q2 q3 q4 q5 q6 q7 q8 q9 q10 q11 sd)), (q5, .inl (G.2.1, 55, .inl (upd tr 33 ((tr 33) ^^^ 1))))]) := hD118
                refine lv_iload hx hb dX7_does_181 (lv_at hl102 0 rfl) ?_
                have er : r_X7_does tr p0 p1 p2 = 1 := by rw [r_X7_does]; (try rw [hr1]); (try rw [hr107]); rw [if_pos c2, if_pos c79, if_pos c108, if_neg c136, if_neg c142, if_pos c147, if_neg c149]
                have e0 : s_X7_does_Z Z tr p0 p1 p2 = Z := by rw [s_X7_does_Z]; (try rw [hr1]); (try rw [hr107]); rw [if_pos c2, if_pos c79, if_pos c108, if_neg c136, if_neg c142, if_pos c147, if_neg c149]
                have e1 : s_X7_does_tr Z tr p0 p1 p2 = upd tr 33 ((tr 33) ^^^ 1) := by rw [s_X7_does_tr]; (try rw [hr1]); (try rw [hr107]); rw [if_pos c2, if_pos c79, if_pos c108, if_neg c136, if_neg c142, if_pos c147, if_neg c149]
                exact k_zret kx hK hP119 hD120 hS118 (u := (Z, upd tr 33 ((tr 33) ^^^ 1))) rfl ⟨er.symm, e0.symm, e1.symm⟩ kb1 dX7_does_183
            · skip
              by_cases c152 : p0 = 4
              · skip
                refine lv_tableIn (off := 143) (tgt := 184) hx hb dX7_does_41 (by rw [c152]; decide) (by rw [c152]; decide) (by rw [c152]; rfl) (by decide) ?_
                refine lv_iload hx hb dX7_does_184 (lv_at hl102 0 rfl) ?_
                refine lv_if_eq (x := 1) (tgt := 203) hx hb dX7_does_186 (by decide) (fun (c153 : 1 = 0) => absurd c153 (by decide)) (fun (c153 : ¬ (1 = 0)) => ?_)
                refine lv_aload_n hx hb dX7_does_189 rfl (lv_at hl102 3 rfl) ?_
                refine va_get (ci := 7) (v := .ref q5) (C := RX7) (T := TX7) (N := 22) hx hb ht inX7 hown hK.1 hP84 0 rfl rfl 8 (by decide) (ht _ q_674) (fun _ h9 => h9) rfl dX7_does_190 ?_
                refine lv_bipush (v := 16) hx hb dX7_does_193 (by decide) ?_
                refine lv_iload_n hx hb dX7_does_195 rfl (lv_at hl102 6 rfl) ?_
                by_cases c154 : p2 = 0
                · skip
                  refine k_top (y := 0) c154 ?_
                  refine lv_imul hx hb dX7_does_196 ?_
                  refine k_top (y := 0) (by decide +kernel) ?_
                  refine k_calli (kRunS (As := [.ref q5, .int 0]) (rest := []) kx (c_X7_mayPoll_0 l G tr q5) q_885 q_883 q_36 q_884 nX7_mayPoll ⟨Nat.le_of_ble_eq_true rfl, Nat.le_of_ble_eq_true rfl⟩ hK hP84 hD85 (kCtx_places _ _ [1] rfl rfl) rfl hl102.1 (Nat.le_of_ble_eq_true rfl) dX7_does_197 ⟨Nat.zero_le _, Nat.zero_le _⟩) hP84 hD85 hS83 hA (kCtx_places _ _ [1] rfl rfl) (fun _ => rfl) (fun r155 _ H121 locs121 hw hP121 hD121 hS121 => ?_)
                  have hr155 : r_X7_mayPoll_0 tr = r155 := (show r155 = r_X7_mayPoll_0 tr from hw).symm
                  have hP122 : va_P G.1 vwCl ([(h0, .inr (7, cM Z q1 q2 q3 q4 q5 q6 q7 q8 q9 q10 q11 sd)), (q5, .inl (G.2.1, 55, .inl tr))]) H121 := hP121
                  have hD123 : va_D A ([(h0, .inr (7, cM Z q1 q2 q3 q4 q5 q6 q7 q8 q9 q10 q11 sd)), (q5, .inl (G.2.1, 55, .inl tr))]) := hD121
                  refine lv_if_ne (x := r155) (tgt := 205) hx hb dX7_does_200 (by decide) (fun (c156 : ¬ (r155 = 0)) => ?_) (fun (c156 : r155 = 0) => ?_)
                  · skip
                    refine lv_aload_n hx hb dX7_does_205 rfl (lv_at hl102 3 rfl) ?_
                    refine va_get (ci := 7) (v := .ref q5) (C := RX7) (T := TX7) (N := 22) hx hb ht inX7 hown hK.1 hP122 0 rfl rfl 8 (by decide) (ht _ q_674) (fun _ h9 => h9) rfl dX7_does_206 ?_
                    refine lv_bipush (v := 16) hx hb dX7_does_209 (by decide) ?_
                    refine lv_iload_n hx hb dX7_does_211 rfl (lv_at hl102 6 rfl) ?_
                    refine k_top (y := 0) c154 ?_
                    refine lv_imul hx hb dX7_does_212 ?_
                    refine k_top (y := 0) (by decide +kernel) ?_
                    refine k_callv (kRunS (As := [.ref q5, .int 0]) (rest := []) kx (c_X7_pollOn_0 l G tr q5) q_888 q_886 q_36 q_887 nX7_pollOn ⟨Nat.le_of_ble_eq_true rfl, Nat.le_of_ble_eq_true rfl⟩ hK hP122 hD123 (kCtx_places _ _ [1] rfl rfl) rfl hl102.1 (Nat.le_of_ble_eq_true rfl) dX7_does_213 ⟨Nat.zero_le _, Nat.zero_le _⟩) hP122 hD123 hS121 hA (kCtx_places _ _ [1] rfl rfl) (fun _ => rfl) (fun _ H124 locs124 hw hP124 hD124 hS124 => ?_)
                    have hP125 : va_P G.1 vwCl ([(h0, .inr (7, cM Z q1 q2 q3 q4 q5 q6 q7 q8 q9 q10 q11 sd)), (q5, .inl (G.2.1, 55, .inl (upd (upd (upd tr 6 1) 8 0) 9 0)))]) H124 := hP124
                    have hD126 : va_D A ([(h0, .inr (7, cM Z q1 q2 q3 q4 q5 q6 q7 q8 q9 q10 q11 sd)), (q5, .inl (G.2.1, 55, .inl (upd (upd (upd tr 6 1) 8 0) 9 0)))]) := hD124
                    refine lv_iconst (v := 1) hx hb dX7_does_216 (by decide) ?_
                    have er : r_X7_does tr p0 p1 p2 = 1 := by rw [r_X7_does]; (try rw [hr1]); (try rw [hr107]); (try rw [hr155]); rw [if_pos c2, if_pos c79, if_pos c108, if_neg c136, if_neg c142, if_neg c147, if_pos c152, if_pos c154, if_neg c156]
                    have e0 : s_X7_does_Z Z tr p0 p1 p2 = Z := by rw [s_X7_does_Z]; (try rw [hr1]); (try rw [hr107]); (try rw [hr155]); rw [if_pos c2, if_pos c79, if_pos c108, if_neg c136, if_neg c142, if_neg c147, if_pos c152, if_pos c154, if_neg c156]
                    have e1 : s_X7_does_tr Z tr p0 p1 p2 = upd (upd (upd tr 6 1) 8 0) 9 0 := by rw [s_X7_does_tr]; (try rw [hr1]); (try rw [hr107]); (try rw [hr155]); rw [if_pos c2, if_pos c79, if_pos c108, if_neg c136, if_neg c142, if_neg c147, if_pos c152, if_pos c154, if_neg c156]
                    exact k_zret kx hK hP125 hD126 hS124 (u := (Z, upd (upd (upd tr 6 1) 8 0) 9 0)) rfl ⟨er.symm, e0.symm, e1.symm⟩ kb1 dX7_does_217
                  · skip
                    refine lv_iconst (v := 0) hx hb dX7_does_203 (by decide) ?_
                    have er : r_X7_does tr p0 p1 p2 = 0 := by rw [r_X7_does]; (try rw [hr1]); (try rw [hr107]); (try rw [hr155]); rw [if_pos c2, if_pos c79, if_pos c108, if_neg c136, if_neg c142, if_neg c147, if_pos c152, if_pos c154, if_pos c156]
                    have e0 : s_X7_does_Z Z tr p0 p1 p2 = Z := by rw [s_X7_does_Z]; (try rw [hr1]); (try rw [hr107]); (try rw [hr155]); rw [if_pos c2, if_pos c79, if_pos c108, if_neg c136, if_neg c142, if_neg c147, if_pos c152, if_pos c154, if_pos c156]
                    have e1 : s_X7_does_tr Z tr p0 p1 p2 = tr := by rw [s_X7_does_tr]; (try rw [hr1]); (try rw [hr107]); (try rw [hr155]); rw [if_pos c2, if_pos c79, if_pos c108, if_neg c136, if_neg c142, if_neg c147, if_pos c152, if_pos c154, if_pos c156]
                    exact k_zret kx hK hP122 hD123 hS121 (u := (Z, tr)) rfl ⟨er.symm, e0.symm, e1.symm⟩ kb0 dX7_does_204
                · skip
                  refine k_top (y := 1) (k01e hr107 c108 c154) ?_
                  refine lv_imul hx hb dX7_does_196 ?_
                  refine k_top (y := 16) (by decide +kernel) ?_
                  refine k_calli (kRunS (As := [.ref q5, .int 16]) (rest := []) kx (c_X7_mayPoll_16 l G tr q5) q_885 q_883 q_36 q_884 nX7_mayPoll ⟨Nat.le_of_ble_eq_true rfl, Nat.le_of_ble_eq_true rfl⟩ hK hP84 hD85 (kCtx_places _ _ [1] rfl rfl) rfl hl102.1 (Nat.le_of_ble_eq_true rfl) dX7_does_197 ⟨Nat.zero_le _, Nat.zero_le _⟩) hP84 hD85 hS83 hA (kCtx_places _ _ [1] rfl rfl) (fun _ => rfl) (fun r159 _ H127 locs127 hw hP127 hD127 hS127 => ?_)
                  have hr159 : r_X7_mayPoll_16 tr = r159 := (show r159 = r_X7_mayPoll_16 tr from hw).symm
                  have hP128 : va_P G.1 vwCl ([(h0, .inr (7, cM Z q1 q2 q3 q4 q5 q6 q7 q8 q9 q10 q11 sd)), (q5, .inl (G.2.1, 55, .inl tr))]) H127 := hP127
                  have hD129 : va_D A ([(h0, .inr (7, cM Z q1 q2 q3 q4 q5 q6 q7 q8 q9 q10 q11 sd)), (q5, .inl (G.2.1, 55, .inl tr))]) := hD127
                  refine lv_if_ne (x := r159) (tgt := 205) hx hb dX7_does_200 (by decide) (fun (c160 : ¬ (r159 = 0)) => ?_) (fun (c160 : r159 = 0) => ?_)
                  · skip
                    refine lv_aload_n hx hb dX7_does_205 rfl (lv_at hl102 3 rfl) ?_
                    refine va_get (ci := 7) (v := .ref q5) (C := RX7) (T := TX7) (N := 22) hx hb ht inX7 hown hK.1 hP128 0 rfl rfl 8 (by decide) (ht _ q_674) (fun _ h9 => h9) rfl dX7_does_206 ?_
                    refine lv_bipush (v := 16) hx hb dX7_does_209 (by decide) ?_
                    refine lv_iload_n hx hb dX7_does_211 rfl (lv_at hl102 6 rfl) ?_
                    refine k_top (y := 1) (k01e hr107 c108 c154) ?_
                    refine lv_imul hx hb dX7_does_212 ?_
                    refine k_top (y := 16) (by decide +kernel) ?_
                    refine k_callv (kRunS (As := [.ref q5, .int 16]) (rest := []) kx (c_X7_pollOn_16 l G tr q5) q_888 q_886 q_36 q_887 nX7_pollOn ⟨Nat.le_of_ble_eq_true rfl, Nat.le_of_ble_eq_true rfl⟩ hK hP128 hD129 (kCtx_places _ _ [1] rfl rfl) rfl hl102.1 (Nat.le_of_ble_eq_true rfl) dX7_does_213 ⟨Nat.zero_le _, Nat.zero_le _⟩) hP128 hD129 hS127 hA (kCtx_places _ _ [1] rfl rfl) (fun _ => rfl) (fun _ H130 locs130 hw hP130 hD130 hS130 => ?_)
                    have hP131 : va_P G.1 vwCl ([(h0, .inr (7, cM Z q1 q2 q3 q4 q5 q6 q7 q8 q9 q10 q11 sd)), (q5, .inl (G.2.1, 55, .inl (upd (upd (upd tr 22 1) 24 0) 25 0)))]) H130 := hP130
                    have hD132 : va_D A ([(h0, .inr (7, cM Z q1 q2 q3 q4 q5 q6 q7 q8 q9 q10 q11 sd)), (q5, .inl (G.2.1, 55, .inl (upd (upd (upd tr 22 1) 24 0) 25 0)))]) := hD130
                    refine lv_iconst (v := 1) hx hb dX7_does_216 (by decide) ?_
                    have er : r_X7_does tr p0 p1 p2 = 1 := by rw [r_X7_does]; (try rw [hr1]); (try rw [hr107]); (try rw [hr159]); rw [if_pos c2, if_pos c79, if_pos c108, if_neg c136, if_neg c142, if_neg c147, if_pos c152, if_neg c154, if_neg c160]
                    have e0 : s_X7_does_Z Z tr p0 p1 p2 = Z := by rw [s_X7_does_Z]; (try rw [hr1]); (try rw [hr107]); (try rw [hr159]); rw [if_pos c2, if_pos c79, if_pos c108, if_neg c136, if_neg c142, if_neg c147, if_pos c152, if_neg c154, if_neg c160]
                    have e1 : s_X7_does_tr Z tr p0 p1 p2 = upd (upd (upd tr 22 1) 24 0) 25 0 := by rw [s_X7_does_tr]; (try rw [hr1]); (try rw [hr107]); (try rw [hr159]); rw [if_pos c2, if_pos c79, if_pos c108, if_neg c136, if_neg c142, if_neg c147, if_pos c152, if_neg c154, if_neg c160]
                    exact k_zret kx hK hP131 hD132 hS130 (u := (Z, upd (upd (upd tr 22 1) 24 0) 25 0)) rfl ⟨er.symm, e0.symm, e1.symm⟩ kb1 dX7_does_217
                  · skip
                    refine lv_iconst (v := 0) hx hb dX7_does_203 (by decide) ?_
                    have er : r_X7_does tr p0 p1 p2 = 0 := by rw [r_X7_does]; (try rw [hr1]); (try rw [hr107]); (try rw [hr159]); rw [if_pos c2, if_pos c79, if_pos c108, if_neg c136, if_neg c142, if_neg c147, if_pos c152, if_neg c154, if_pos c160]
                    have e0 : s_X7_does_Z Z tr p0 p1 p2 = Z := by rw [s_X7_does_Z]; (try rw [hr1]); (try rw [hr107]); (try rw [hr159]); rw [if_pos c2, if_pos c79, if_pos c108, if_neg c136, if_neg c142, if_neg c147, if_pos c152, if_neg c154, if_pos c160]
                    have e1 : s_X7_does_tr Z tr p0 p1 p2 = tr := by rw [s_X7_does_tr]; (try rw [hr1]); (try rw [hr107]); (try rw [hr159]); rw [if_pos c2, if_pos c79, if_pos c108, if_neg c136, if_neg c142, if_neg c147, if_pos c152, if_neg c154, if_pos c160]
                    exact k_zret kx hK hP128 hD129 hS127 (u := (Z, tr)) rfl ⟨er.symm, e0.symm, e1.symm⟩ kb0 dX7_does_204
              · skip
                by_cases c163 : p0 = 5
                · skip
                  refine lv_tableIn (off := 177) (tgt := 218) hx hb dX7_does_41 (by rw [c163]; decide) (by rw [c163]; decide) (by rw [c163]; rfl) (by decide) ?_
                  refine lv_iload hx hb dX7_does_218 (lv_at hl102 1 rfl) ?_
                  refine lv_if_eq (x := 1) (tgt := 242) hx hb dX7_does_220 (by decide) (fun (c164 : 1 = 0) => absurd c164 (by decide)) (fun (c164 : ¬ (1 = 0)) => ?_)
                  refine lv_aload_n hx hb dX7_does_223 rfl (lv_at hl102 3 rfl) ?_
                  refine va_get (ci := 7) (v := .ref q5) (C := RX7) (T := TX7) (N := 22) hx hb ht inX7 hown hK.1 hP84 0 rfl rfl 8 (by decide) (ht _ q_674) (fun _ h9 => h9) rfl dX7_does_224 ?_
                  refine lv_bipush (v := 16) hx hb dX7_does_227 (by decide) ?_
                  refine lv_iload_n hx hb dX7_does_229 rfl (lv_at hl102 5 rfl) ?_
                  refine k_top (y := 0) c79 ?_
                  refine lv_imul hx hb dX7_does_230 ?_
                  refine k_top (y := 0) (by decide +kernel) ?_
                  refine lv_iconst (v := 5) hx hb dX7_does_231 (by decide) ?_
                  refine lv_iadd hx hb dX7_does_232 ?_
                  refine k_top (y := 5) (by decide +kernel) ?_
                  refine k_iald (v := (tr 5)) kx hK hP84 1 rfl 5 rfl (by decide) (by decide) rfl dX7_does_233 ?_
                  refine lv_iload_n hx hb dX7_does_234 rfl (lv_at hl102 6 rfl) ?_
                  refine lv_icmp_ne (x := tr 5) (y := p2) (tgt := 242) hx hb dX7_does_235 (by decide) (fun (c166 : ¬ (tr 5 = p2)) => ?_) (fun (c166 : tr 5 = p2) => ?_)
                  · skip
                    refine lv_iconst (v := 0) hx hb dX7_does_242 (by decide) ?_
                    have er : r_X7_does tr p0 p1 p2 = 0 := by rw [r_X7_does]; (try rw [hr1]); (try rw [hr107]); rw [if_pos c2, if_pos c79, if_pos c108, if_neg c136, if_neg c142, if_neg c147, if_neg c152, if_pos c163, if_neg c166]
                    have e0 : s_X7_does_Z Z tr p0 p1 p2 = Z := by rw [s_X7_does_Z]; (try rw [hr1]); (try rw [hr107]); rw [if_pos c2, if_pos c79, if_pos c108, if_neg c136, if_neg c142, if_neg c147, if_neg c152, if_pos c163, if_neg c166]
                    have e1 : s_X7_does_tr Z tr p0 p1 p2 = tr := by rw [s_X7_does_tr]; (try rw [hr1]); (try rw [hr107]); rw [if_pos c2, if_pos c79, if_pos c108, if_neg c136, if_neg c142, if_neg c147, if_neg c152, if_pos c163, if_neg c166]
                    exact k_zret kx hK hP84 hD85 hS83 (u := (Z, tr)) rfl ⟨er.symm, e0.symm, e1.symm⟩ kb0 dX7_does_243
                  · skip
                    refine lv_iconst (v := 1) hx hb dX7_does_238 (by decide) ?_
                    refine lv_goto (tgt := 243) hx hb dX7_does_239 (by decide) ?_
                    have er : r_X7_does tr p0 p1 p2 = 1 := by rw [r_X7_does]; (try rw [hr1]); (try rw [hr107]); rw [if_pos c2, if_pos c79, if_pos c108, if_neg c136, if_neg c142, if_neg c147, if_neg c152, if_pos c163, if_pos c166]
                    have e0 : s_X7_does_Z Z tr p0 p1 p2 = Z := by rw [s_X7_does_Z]; (try rw [hr1]); (try rw [hr107]); rw [if_pos c2, if_pos c79, if_pos c108, if_neg c136, if_neg c142, if_neg c147, if_neg c152, if_pos c163, if_pos c166]
                    have e1 : s_X7_does_tr Z tr p0 p1 p2 = tr := by rw [s_X7_does_tr]; (try rw [hr1]); (try rw [hr107]); rw [if_pos c2, if_pos c79, if_pos c108, if_neg c136, if_neg c142, if_neg c147, if_neg c152, if_pos c163, if_pos c166]
                    exact k_zret kx hK hP84 hD85 hS83 (u := (Z, tr)) rfl ⟨er.symm, e0.symm, e1.symm⟩ kb1 dX7_does_243
                · skip
                  by_cases c167 : p0 = 6
                  · skip
                    refine lv_tableIn (off := 203) (tgt := 244) hx hb dX7_does_41 (by rw [c167]; decide) (by rw [c167]; decide) (by rw [c167]; rfl) (by decide) ?_
                    refine lv_iload hx hb dX7_does_244 (lv_at hl102 1 rfl) ?_
                    refine lv_if_eq (x := 1) (tgt := 269) hx hb dX7_does_246 (by decide) (fun (c168 : 1 = 0) => absurd c168 (by decide)) (fun (c168 : ¬ (1 = 0)) => ?_)
                    refine lv_aload_n hx hb dX7_does_249 rfl (lv_at hl102 3 rfl) ?_
                    refine va_get (ci := 7) (v := .ref q5) (C := RX7) (T := TX7) (N := 22) hx hb ht inX7 hown hK.1 hP84 0 rfl rfl 8 (by decide) (ht _ q_674) (fun _ h9 => h9) rfl dX7_does_250 ?_
                    refine lv_bipush (v := 16) hx hb dX7_does_253 (by decide) ?_
                    refine lv_iload_n hx hb dX7_does_255 rfl (lv_at hl102 5 rfl) ?_
                    refine k_top (y := 0) c79 ?_
                    refine lv_imul hx hb dX7_does_256 ?_
                    refine k_top (y := 0) (by decide +kernel) ?_
                    refine lv_bipush (v := 6) hx hb dX7_does_257 (by decide) ?_
                    refine lv_iadd hx hb dX7_does_259 ?_
                    refine k_top (y := 6) (by decide +kernel) ?_
                    refine k_iald (v := (tr 6)) kx hK hP84 1 rfl 6 rfl (by decide) (by decide) rfl dX7_does_260 ?_
                    refine lv_iload_n hx hb dX7_does_261 rfl (lv_at hl102 6 rfl) ?_
                    refine lv_icmp_ne (x := tr 6) (y := p2) (tgt := 269) hx hb dX7_does_262 (by decide) (fun (c170 : ¬ (tr 6 = p2)) => ?_) (fun (c170 : tr 6 = p2) => ?_)
                    · skip
                      refine lv_iconst (v := 0) hx hb dX7_does_269 (by decide) ?_
                      have er : r_X7_does tr p0 p1 p2 = 0 := by rw [r_X7_does]; (try rw [hr1]); (try rw [hr107]); rw [if_pos c2, if_pos c79, if_pos c108, if_neg c136, if_neg c142, if_neg c147, if_neg c152, if_neg c163, if_pos c167, if_neg c170]
                      have e0 : s_X7_does_Z Z tr p0 p1 p2 = Z := by rw [s_X7_does_Z]; (try rw [hr1]); (try rw [hr107]); rw [if_pos c2, if_pos c79, if_pos c108, if_neg c136, if_neg c142, if_neg c147, if_neg c152, if_neg c163, if_pos c167, if_neg c170]
                      have e1 : s_X7_does_tr Z tr p0 p1 p2 = tr := by rw [s_X7_does_tr]; (try rw [hr1]); (try rw [hr107]); rw [if_pos c2, if_pos c79, if_pos c108, if_neg c136, if_neg c142, if_neg c147, if_neg c152, if_neg c163, if_pos c167, if_neg c170]
                      exact k_zret kx hK hP84 hD85 hS83 (u := (Z, tr)) rfl ⟨er.symm, e0.symm, e1.symm⟩ kb0 dX7_does_270
                    · skip
                      refine lv_iconst (v := 1) hx hb dX7_does_265 (by decide) ?_
                      refine lv_goto (tgt := 270) hx hb dX7_does_266 (by decide) ?_
                      have er : r_X7_does tr p0 p1 p2 = 1 := by rw [r_X7_does]; (try rw [hr1]); (try rw [hr107]); rw [if_pos c2, if_pos c79, if_pos c108, if_neg c136, if_neg c142, if_neg c147, if_neg c152, if_neg c163, if_pos c167, if_pos c170]
                      have e0 : s_X7_does_Z Z tr p0 p1 p2 = Z := by rw [s_X7_does_Z]; (try rw [hr1]); (try rw [hr107]); rw [if_pos c2, if_pos c79, if_pos c108, if_neg c136, if_neg c142, if_neg c147, if_neg c152, if_neg c163, if_pos c167, if_pos c170]
                      have e1 : s_X7_does_tr Z tr p0 p1 p2 = tr := by rw [s_X7_does_tr]; (try rw [hr1]); (try rw [hr107]); rw [if_pos c2, if_pos c79, if_pos c108, if_neg c136, if_neg c142, if_neg c147, if_neg c152, if_neg c163, if_pos c167, if_pos c170]
                      exact k_zret kx hK hP84 hD85 hS83 (u := (Z, tr)) rfl ⟨er.symm, e0.symm, e1.symm⟩ kb1 dX7_does_270
                  · skip
                    by_cases c171 : p0 = 7
                    · skip
                      refine lv_tableIn (off := 230) (tgt := 271) hx hb dX7_does_41 (by rw [c171]; decide) (by rw [c171]; decide) (by rw [c171]; rfl) (by decide) ?_
                      refine lv_iload hx hb dX7_does_271 (lv_at hl102 1 rfl) ?_
                      refine lv_if_eq (x := 1) (tgt := 295) hx hb dX7_does_273 (by decide) (fun (c172 : 1 = 0) => absurd c172 (by decide)) (fun (c172 : ¬ (1 = 0)) => ?_)
                      refine lv_aload_n hx hb dX7_does_276 rfl (lv_at hl102 3 rfl) ?_
                      refine va_get (ci := 7) (v := .ref q5) (C := RX7) (T := TX7) (N := 22) hx hb ht inX7 hown hK.1 hP84 0 rfl rfl 8 (by decide) (ht _ q_674) (fun _ h9 => h9) rfl dX7_does_277 ?_
                      refine lv_bipush (v := 16) hx hb dX7_does_280 (by decide) ?_
                      refine lv_iload_n hx hb dX7_does_282 rfl (lv_at hl102 5 rfl) ?_
                      refine k_top (y := 0) c79 ?_
                      refine lv_imul hx hb dX7_does_283 ?_
                      refine k_top (y := 0) (by decide +kernel) ?_
                      refine k_calli (kRunS (As := [.ref q5, .int 0]) (rest := []) kx (c_X7_paceOn_0 l G tr q5) q_817 q_815 q_36 q_816 nX7_paceOn ⟨Nat.le_of_ble_eq_true rfl, Nat.le_of_ble_eq_true rfl⟩ hK hP84 hD85 (kCtx_places _ _ [1] rfl rfl) rfl hl102.1 (Nat.le_of_ble_eq_true rfl) dX7_does_284 ⟨Nat.zero_le _, Nat.zero_le _⟩) hP84 hD85 hS83 hA (kCtx_places _ _ [1] rfl rfl) (fun _ => rfl) (fun r174 _ H133 locs133 hw hP133 hD133 hS133 => ?_)
                      have hr174 : r_X7_paceOn_0 tr = r174 := (show r174 = r_X7_paceOn_0 tr from hw).symm
                      have hP134 : va_P G.1 vwCl ([(h0, .inr (7, cM Z q1 q2 q3 q4 q5 q6 q7 q8 q9 q10 q11 sd)), (q5, .inl (G.2.1, 55, .inl tr))]) H133 := hP133
                      have hD135 : va_D A ([(h0, .inr (7, cM Z q1 q2 q3 q4 q5 q6 q7 q8 q9 q10 q11 sd)), (q5, .inl (G.2.1, 55, .inl tr))]) := hD133
                      refine lv_iload_n hx hb dX7_does_287 rfl (lv_at hl102 6 rfl) ?_
                      refine lv_icmp_ne (x := r174) (y := p2) (tgt := 295) hx hb dX7_does_288 (by decide) (fun (c175 : ¬ (r174 = p2)) => ?_) (fun (c175 : r174 = p2) => ?_)
                      · skip
                        refine lv_iconst (v := 0) hx hb dX7_does_295 (by decide) ?_
                        have er : r_X7_does tr p0 p1 p2 = 0 := by rw [r_X7_does]; (try rw [hr1]); (try rw [hr107]); (try rw [hr174]); rw [if_pos c2, if_pos c79, if_pos c108, if_neg c136, if_neg c142, if_neg c147, if_neg c152, if_neg c163, if_neg c167, if_pos c171, if_neg c175]
                        have e0 : s_X7_does_Z Z tr p0 p1 p2 = Z := by rw [s_X7_does_Z]; (try rw [hr1]); (try rw [hr107]); (try rw [hr174]); rw [if_pos c2, if_pos c79, if_pos c108, if_neg c136, if_neg c142, if_neg c147, if_neg c152, if_neg c163, if_neg c167, if_pos c171, if_neg c175]
                        have e1 : s_X7_does_tr Z tr p0 p1 p2 = tr := by rw [s_X7_does_tr]; (try rw [hr1]); (try rw [hr107]); (try rw [hr174]); rw [if_pos c2, if_pos c79, if_pos c108, if_neg c136, if_neg c142, if_neg c147, if_neg c152, if_neg c163, if_neg c167, if_pos c171, if_neg c175]
                        exact k_zret kx hK hP134 hD135 hS133 (u := (Z, tr)) rfl ⟨er.symm, e0.symm, e1.symm⟩ kb0 dX7_does_296
                      · skip
                        refine lv_iconst (v := 1) hx hb dX7_does_291 (by decide) ?_
                        refine lv_goto (tgt := 296) hx hb dX7_does_292 (by decide) ?_
                        have er : r_X7_does tr p0 p1 p2 = 1 := by rw [r_X7_does]; (try rw [hr1]); (try rw [hr107]); (try rw [hr174]); rw [if_pos c2, if_pos c79, if_pos c108, if_neg c136, if_neg c142, if_neg c147, if_neg c152, if_neg c163, if_neg c167, if_pos c171, if_pos c175]
                        have e0 : s_X7_does_Z Z tr p0 p1 p2 = Z := by rw [s_X7_does_Z]; (try rw [hr1]); (try rw [hr107]); (try rw [hr174]); rw [if_pos c2, if_pos c79, if_pos c108, if_neg c136, if_neg c142, if_neg c147, if_neg c152, if_neg c163, if_neg c167, if_pos c171, if_pos c175]
                        have e1 : s_X7_does_tr Z tr p0 p1 p2 = tr := by rw [s_X7_does_tr]; (try rw [hr1]); (try rw [hr107]); (try rw [hr174]); rw [if_pos c2, if_pos c79, if_pos c108, if_neg c136, if_neg c142, if_neg c147, if_neg c152, if_neg c163, if_neg c167, if_pos c171, if_pos c175]
                        exact k_zret kx hK hP134 hD135 hS133 (u := (Z, tr)) rfl ⟨er.symm, e0.symm, e1.symm⟩ kb1 dX7_does_296
                    · skip
                      have nc136 := lv_neT (a := 1) c136 (by decide)
                      have nc142 := lv_neT (a := 2) c142 (by decide)
                      have nc147 := lv_neT (a := 3) c147 (by decide)
                      have nc152 := lv_neT (a := 4) c152 (by decide)
                      have nc163 := lv_neT (a := 5) c163 (by decide)
                      have nc167 := lv_neT (a := 6) c167 (by decide)
                      have nc171 := lv_neT (a := 7) c171 (by decide)
                      refine lv_tableOut (tgt := 297) hx hb dX7_does_41 (by omega) (by decide) ?_
                      refine lv_iconst (v := 0) hx hb dX7_does_297 (by decide) ?_
                      have er : r_X7_does tr p0 p1 p2 = 0 := by rw [r_X7_does]; (try rw [hr1]); (try rw [hr107]); rw [if_pos c2, if_pos c79, if_pos c108, if_neg c136, if_neg c142, if_neg c147, if_neg c152, if_neg c163, if_neg c167, if_neg c171]
                      have e0 : s_X7_does_Z Z tr p0 p1 p2 = Z := by rw [s_X7_does_Z]; (try rw [hr1]); (try rw [hr107]); rw [if_pos c2, if_pos c79, if_pos c108, if_neg c136, if_neg c142, if_neg c147, if_neg c152, if_neg c163, if_neg c167, if_neg c171]
                      have e1 : s_X7_does_tr Z tr p0 p1 p2 = tr := by rw [s_X7_does_tr]; (try rw [hr1]); (try rw [hr107]); rw [if_pos c2, if_pos c79, if_pos c108, if_neg c136, if_neg c142, if_neg c147, if_neg c152, if_neg c163, if_neg c167, if_neg c171]
                      exact k_zret kx hK hP84 hD85 hS83 (u := (Z, tr)) rfl ⟨er.symm, e0.symm, e1.symm⟩ kb0 dX7_does_298


def r_X7_isSeen (Z : Nat → Int32) (kk : Nat) (pg : Nat → Int32) (tr : Nat → Int32) (sa : Nat → Int32) (se : Nat → Int32) (sm : Nat → Int32) (p0 : Int32) : Int32 := if se kk = 0 then (if (s_X7_goFor_f (upd (upd (upd Z 18 (-9)) 20 0) 21 6) (upd (upd (s_X7_lay_t pg tr) 1 p0) 4 p0) (sa kk)) 5 = sm kk then 1 else 0) else if (s_X7_goFor_f (upd (upd (upd Z 18 (-9)) 20 0) 21 6) (upd (upd (s_X7_lay_t pg tr) 1 p0) 4 p0) (sa kk)) 21 = sm kk then 1 else 0
def s_X7_isSeen_Z (Z : Nat → Int32) (kk : Nat) (pg : Nat → Int32) (tr : Nat → Int32) (sa : Nat → Int32) (se : Nat → Int32) (sm : Nat → Int32) (p0 : Int32) : Nat → Int32 := if se kk = 0 then (if (s_X7_goFor_f (upd (upd (upd Z 18 (-9)) 20 0) 21 6) (upd (upd (s_X7_lay_t pg tr) 1 p0) 4 p0) (sa kk)) 5 = sm kk then (s_X7_goFor_Z (upd (upd (upd Z 18 (-9)) 20 0) 21 6) (upd (upd (s_X7_lay_t pg tr) 1 p0) 4 p0) (sa kk)) else s_X7_goFor_Z (upd (upd (upd Z 18 (-9)) 20 0) 21 6) (upd (upd (s_X7_lay_t pg tr) 1 p0) 4 p0) (sa kk)) else if (s_X7_goFor_f (upd (upd (upd Z 18 (-9)) 20 0) 21 6) (upd (upd (s_X7_lay_t pg tr) 1 p0) 4 p0) (sa kk)) 21 = sm kk then (s_X7_goFor_Z (upd (upd (upd Z 18 (-9)) 20 0) 21 6) (upd (upd (s_X7_lay_t pg tr) 1 p0) 4 p0) (sa kk)) else s_X7_goFor_Z (upd (upd (upd Z 18 (-9)) 20 0) 21 6) (upd (upd (s_X7_lay_t pg tr) 1 p0) 4 p0) (sa kk)
def s_X7_isSeen_tr (Z : Nat → Int32) (kk : Nat) (pg : Nat → Int32) (tr : Nat → Int32) (sa : Nat → Int32) (se : Nat → Int32) (sm : Nat → Int32) (p0 : Int32) : Nat → Int32 := if se kk = 0 then (if (s_X7_goFor_f (upd (upd (upd Z 18 (-9)) 20 0) 21 6) (upd (upd (s_X7_lay_t pg tr) 1 p0) 4 p0) (sa kk)) 5 = sm kk then (s_X7_goFor_f (upd (upd (upd Z 18 (-9)) 20 0) 21 6) (upd (upd (s_X7_lay_t pg tr) 1 p0) 4 p0) (sa kk)) else s_X7_goFor_f (upd (upd (upd Z 18 (-9)) 20 0) 21 6) (upd (upd (s_X7_lay_t pg tr) 1 p0) 4 p0) (sa kk)) else if (s_X7_goFor_f (upd (upd (upd Z 18 (-9)) 20 0) 21 6) (upd (upd (s_X7_lay_t pg tr) 1 p0) 4 p0) (sa kk)) 21 = sm kk then (s_X7_goFor_f (upd (upd (upd Z 18 (-9)) 20 0) 21 6) (upd (upd (s_X7_lay_t pg tr) 1 p0) 4 p0) (sa kk)) else s_X7_goFor_f (upd (upd (upd Z 18 (-9)) 20 0) 21 6) (upd (upd (s_X7_lay_t pg tr) 1 p0) 4 p0) (sa kk)
set_option maxHeartbeats 4000000 in
set_option maxRecDepth 100000 in
theorem c_X7_isSeen (l : Launch) (G : kG) (Z : Nat → Int32) (kk : Nat) (sd : Int64) (h0 : Nat) (q1 : Nat) (q2 : Nat) (q3 : Nat) (q4 : Nat) (q5 : Nat) (q6 : Nat) (q7 : Nat) (q8 : Nat) (q9 : Nat) (q10 : Nat) (q11 : Nat) (pg : Nat → Int32) (tr : Nat → Int32) (sa : Nat → Int32) (se : Nat → Int32) (sm : Nat → Int32) (p0 : Int32) (hk : kk < 6) (hs : se kk = 0 ∨ se kk = 1) : cG l G yX7_isSeen cX7_isSeen 3 (some .boolean) 6 [.ref h0, .int p0, .int (nI kk)] ([(h0, .inr (7, cM Z q1 q2 q3 q4 q5 q6 q7 q8 q9 q10 q11 sd)), (q4, .inl (G.2.1, 55, .inl pg)), (q5, .inl (G.2.1, 55, .inl tr)), (q9, .inl (G.2.1, 6, .inl sa)), (q10, .inl (G.2.1, 6, .inl se)), (q11, .inl (G.2.1, 6, .inl sm))]) (qI G (fun (r : Int32) (u : ((Nat → Int32) × (Nat → Int32))) => r = r_X7_isSeen Z kk pg tr sa se sm p0 ∧ u.1 = s_X7_isSeen_Z Z kk pg tr sa se sm p0 ∧ u.2 = s_X7_isSeen_tr Z kk pg tr sa se sm p0) (fun u => [(h0, .inr (7, cM u.1 q1 q2 q3 q4 q5 q6 q7 q8 q9 q10 q11 sd)), (q4, .inl (G.2.1, 55, .inl pg)), (q5, .inl (G.2.1, 55, .inl u.2)), (q9, .inl (G.2.1, 6, .inl sa)), (q10, .inl (G.2.1, 6, .inl se)), (q11, .inl (G.2.1, 6, .inl sm))])) := by
  refine kintro (by decide) (Nat.le_of_ble_eq_true rfl) ?_
  intro p e s m args below meth c A ls kx hK hP hD hS hA hl
  have kx : kX p s m args meth c cX7_isSeen 3 (some .boolean) RX7 := kx
  have hx := kx.1
  have hb := kx.2.1
  have hown := kx.2.2.2.2.1
  have ht := kx.2.2.2.2.2.2
  have hl : lv_has ls 3 [(0, .ref h0), (1, .int p0), (2, .int (nI kk))] := hl
  refine lv_aload_n hx hb dX7_isSeen_0 rfl (lv_at hl 0 rfl) ?_
  refine k_callv (kRunV (As := []) (rest := []) kx (c_X7_layTrial l G Z sd h0 q1 q2 q3 q4 q5 q6 q7 q8 q9 q10 q11 pg tr) q_774 q_771 q_36 q_773 q_16 nX7_layTrial ⟨Nat.le_of_ble_eq_true rfl, Nat.le_of_ble_eq_true rfl⟩ hK hP hD (kCtx_places _ _ [0, 1, 2] rfl rfl) 0 7 rfl rfl rfl rfl hl.1 (Nat.le_of_ble_eq_true rfl) dX7_isSeen_1 ⟨Nat.zero_le _, Nat.zero_le _⟩) hP hD hS hA (kCtx_places _ _ [0, 1, 2] rfl rfl) (fun _ => rfl) (fun _ H1 locs1 hw hP1 hD1 hS1 => ?_)
  have hP2 : va_P G.1 vwCl ([(h0, .inr (7, cM (upd (upd (upd Z 18 (-9)) 20 0) 21 6) q1 q2 q3 q4 q5 q6 q7 q8 q9 q10 q11 sd)), (q4, .inl (G.2.1, 55, .inl pg)), (q5, .inl (G.2.1, 55, .inl (s_X7_lay_t pg tr))), (q9, .inl (G.2.1, 6, .inl sa)), (q10, .inl (G.2.1, 6, .inl se)), (q11, .inl (G.2.1, 6, .inl sm))]) H1 := hP1
  have hD3 : va_D A ([(h0, .inr (7, cM (upd (upd (upd Z 18 (-9)) 20 0) 21 6) q1 q2 q3 q4 q5 q6 q7 q8 q9 q10 q11 sd)), (q4, .inl (G.2.1, 55, .inl pg)), (q5, .inl (G.2.1, 55, .inl (s_X7_lay_t pg tr))), (q9, .inl (G.2.1, 6, .inl sa)), (q10, .inl (G.2.1, 6, .inl se)), (q11, .inl (G.2.1, 6, .inl sm))]) := hD1
  refine lv_aload_n hx hb dX7_isSeen_4 rfl (lv_at hl 0 rfl) ?_
  refine va_get (ci := 7) (v := .ref q5) (C := RX7) (T := TX7) (N := 22) hx hb ht inX7 hown hK.1 hP2 0 rfl rfl 8 (by decide) (ht _ q_674) (fun _ h9 => h9) rfl dX7_isSeen_5 ?_
  refine lv_iconst (v := 1) hx hb dX7_isSeen_8 (by decide) ?_
  refine lv_iload_n hx hb dX7_isSeen_9 rfl (lv_at hl 1 rfl) ?_
  refine k_iast kx hK hP2 hD3 hS1 2 rfl 1 rfl (by decide) (by decide) dX7_isSeen_10 (fun H4 locs4 hP4 hD4 hS4 => ?_)
  have hP5 : va_P G.1 vwCl ([(h0, .inr (7, cM (upd (upd (upd Z 18 (-9)) 20 0) 21 6) q1 q2 q3 q4 q5 q6 q7 q8 q9 q10 q11 sd)), (q4, .inl (G.2.1, 55, .inl pg)), (q5, .inl (G.2.1, 55, .inl (upd (s_X7_lay_t pg tr) 1 p0))), (q9, .inl (G.2.1, 6, .inl sa)), (q10, .inl (G.2.1, 6, .inl se)), (q11, .inl (G.2.1, 6, .inl sm))]) H4 := hP4
  have hD6 : va_D A ([(h0, .inr (7, cM (upd (upd (upd Z 18 (-9)) 20 0) 21 6) q1 q2 q3 q4 q5 q6 q7 q8 q9 q10 q11 sd)), (q4, .inl (G.2.1, 55, .inl pg)), (q5, .inl (G.2.1, 55, .inl (upd (s_X7_lay_t pg tr) 1 p0))), (q9, .inl (G.2.1, 6, .inl sa)), (q10, .inl (G.2.1, 6, .inl se)), (q11, .inl (G.2.1, 6, .inl sm))]) := hD4
  refine lv_aload_n hx hb dX7_isSeen_11 rfl (lv_at hl 0 rfl) ?_
  refine va_get (ci := 7) (v := .ref q5) (C := RX7) (T := TX7) (N := 22) hx hb ht inX7 hown hK.1 hP5 0 rfl rfl 8 (by decide) (ht _ q_674) (fun _ h9 => h9) rfl dX7_isSeen_12 ?_
  refine lv_iconst (v := 4) hx hb dX7_isSeen_15 (by decide) ?_
  refine lv_iload_n hx hb dX7_isSeen_16 rfl (lv_at hl 1 rfl) ?_
  refine k_iast kx hK hP5 hD6 hS4 2 rfl 4 rfl (by decide) (by decide) dX7_isSeen_17 (fun H7 locs7 hP7 hD7 hS7 => ?_)
  have hP8 : va_P G.1 vwCl ([(h0, .inr (7, cM (upd (upd (upd Z 18 (-9)) 20 0) 21 6) q1 q2 q3 q4 q5 q6 q7 q8 q9 q10 q11 sd)), (q4, .inl (G.2.1, 55, .inl pg)), (q5, .inl (G.2.1, 55, .inl (upd (upd (s_X7_lay_t pg tr) 1 p0) 4 p0))), (q9, .inl (G.2.1, 6, .inl sa)), (q10, .inl (G.2.1, 6, .inl se)), (q11, .inl (G.2.1, 6, .inl sm))]) H7 := hP7
  have hD9 : va_D A ([(h0, .inr (7, cM (upd (upd (upd Z 18 (-9)) 20 0) 21 6) q1 q2 q3 q4 q5 q6 q7 q8 q9 q10 q11 sd)), (q4, .inl (G.2.1, 55, .inl pg)), (q5, .inl (G.2.1, 55, .inl (upd (upd (s_X7_lay_t pg tr) 1 p0) 4 p0))), (q9, .inl (G.2.1, 6, .inl sa)), (q10, .inl (G.2.1, 6, .inl se)), (q11, .inl (G.2.1, 6, .inl sm))]) := hD7
  refine lv_aload_n hx hb dX7_isSeen_18 rfl (lv_at hl 0 rfl) ?_
  refine lv_aload_n hx hb dX7_isSeen_19 rfl (lv_at hl 0 rfl) ?_
  refine va_get (ci := 7) (v := .ref q5) (C := RX7) (T := TX7) (N := 22) hx hb ht inX7 hown hK.1 hP8 0 rfl rfl 8 (by decide) (ht _ q_674) (fun _ h9 => h9) rfl dX7_isSeen_20 ?_
  refine lv_aload_n hx hb dX7_isSeen_23 rfl (lv_at hl 0 rfl) ?_
  refine va_get (ci := 7) (v := .ref q9) (C := RX7) (T := TX7) (N := 22) hx hb ht inX7 hown hK.1 hP8 0 rfl rfl 14 (by decide) (ht _ q_680) (fun _ h9 => h9) rfl dX7_isSeen_24 ?_
  refine lv_iload_n hx hb dX7_isSeen_27 rfl (lv_at hl 2 rfl) ?_
  refine k_iald (v := (sa kk)) kx hK hP8 3 rfl kk rfl hk (by decide) rfl dX7_isSeen_28 ?_
  refine k_callv (kRunV (As := [.ref q5, .int (sa kk)]) (rest := []) kx (c_X7_goFor l G (upd (upd (upd Z 18 (-9)) 20 0) 21 6) sd h0 q1 q2 q3 q4 q5 q6 q7 q8 q9 q10 q11 (upd (upd (s_X7_lay_t pg tr) 1 p0) 4 p0) q5 (sa kk)) q_778 q_775 q_36 q_777 q_17 nX7_goFor ⟨Nat.le_of_ble_eq_true rfl, Nat.le_of_ble_eq_true rfl⟩ hK hP8 hD9 (kCtx_places _ _ [0, 2] rfl rfl) 0 7 rfl rfl rfl rfl hl.1 (Nat.le_of_ble_eq_true rfl) dX7_isSeen_29 ⟨Nat.zero_le _, Nat.zero_le _⟩) hP8 hD9 hS7 hA (kCtx_places _ _ [0, 2] rfl rfl) (fun _ => rfl) (fun u H10 locs10 hw hP10 hD10 hS10 => ?_)
  obtain ⟨F3, F4⟩ := u
  obtain ⟨hF3, hF4⟩ := hw
  have hF3 : s_X7_goFor_Z (upd (upd (upd Z 18 (-9)) 20 0) 21 6) (upd (upd (s_X7_lay_t pg tr) 1 p0) 4 p0) (sa kk) = F3 := (show F3 = s_X7_goFor_Z (upd (upd (upd Z 18 (-9)) 20 0) 21 6) (upd (upd (s_X7_lay_t pg tr) 1 p0) 4 p0) (sa kk) from hF3).symm
  have hF4 : s_X7_goFor_f (upd (upd (upd Z 18 (-9)) 20 0) 21 6) (upd (upd (s_X7_lay_t pg tr) 1 p0) 4 p0) (sa kk) = F4 := (show F4 = s_X7_goFor_f (upd (upd (upd Z 18 (-9)) 20 0) 21 6) (upd (upd (s_X7_lay_t pg tr) 1 p0) 4 p0) (sa kk) from hF4).symm
  have hP11 : va_P G.1 vwCl ([(h0, .inr (7, cM F3 q1 q2 q3 q4 q5 q6 q7 q8 q9 q10 q11 sd)), (q4, .inl (G.2.1, 55, .inl pg)), (q5, .inl (G.2.1, 55, .inl F4)), (q9, .inl (G.2.1, 6, .inl sa)), (q10, .inl (G.2.1, 6, .inl se)), (q11, .inl (G.2.1, 6, .inl sm))]) H10 := hP10
  have hD12 : va_D A ([(h0, .inr (7, cM F3 q1 q2 q3 q4 q5 q6 q7 q8 q9 q10 q11 sd)), (q4, .inl (G.2.1, 55, .inl pg)), (q5, .inl (G.2.1, 55, .inl F4)), (q9, .inl (G.2.1, 6, .inl sa)), (q10, .inl (G.2.1, 6, .inl se)), (q11, .inl (G.2.1, 6, .inl sm))]) := hD10
  refine lv_aload_n hx hb dX7_isSeen_32 rfl (lv_at hl 0 rfl) ?_
  refine va_get (ci := 7) (v := .ref q5) (C := RX7) (T := TX7) (N := 22) hx hb ht inX7 hown hK.1 hP11 0 rfl rfl 8 (by decide) (ht _ q_674) (fun _ h9 => h9) rfl dX7_isSeen_33 ?_
  refine lv_bipush (v := 16) hx hb dX7_isSeen_36 (by decide) ?_
  refine lv_aload_n hx hb dX7_isSeen_38 rfl (lv_at hl 0 rfl) ?_
  refine va_get (ci := 7) (v := .ref q10) (C := RX7) (T := TX7) (N := 22) hx hb ht inX7 hown hK.1 hP11 0 rfl rfl 15 (by decide) (ht _ q_681) (fun _ h9 => h9) rfl dX7_isSeen_39 ?_
  refine lv_iload_n hx hb dX7_isSeen_42 rfl (lv_at hl 2 rfl) ?_
  refine k_iald (v := (se kk)) kx hK hP11 4 rfl kk rfl hk (by decide) rfl dX7_isSeen_43 ?_
  by_cases c5 : se kk = 0
  · skip
    refine k_top (y := 0) c5 ?_
    refine lv_imul hx hb dX7_isSeen_44 ?_
    refine k_top (y := 0) (by decide +kernel) ?_
    refine lv_iconst (v := 5) hx hb dX7_isSeen_45 (by decide) ?_
    refine lv_iadd hx hb dX7_isSeen_46 ?_
    refine k_top (y := 5) (by decide +kernel) ?_
    refine k_iald (v := (F4 5)) kx hK hP11 2 rfl 5 rfl (by decide) (by decide) rfl dX7_isSeen_47 ?_
    refine lv_aload_n hx hb dX7_isSeen_48 rfl (lv_at hl 0 rfl) ?_
    refine va_get (ci := 7) (v := .ref q11) (C := RX7) (T := TX7) (N := 22) hx hb ht inX7 hown hK.1 hP11 0 rfl rfl 16 (by decide) (ht _ q_682) (fun _ h9 => h9) rfl dX7_isSeen_49 ?_
    refine lv_iload_n hx hb dX7_isSeen_52 rfl (lv_at hl 2 rfl) ?_
    refine k_iald (v := (sm kk)) kx hK hP11 5 rfl kk rfl hk (by decide) rfl dX7_isSeen_53 ?_
    refine lv_icmp_ne (x := F4 5) (y := sm kk) (tgt := 61) hx hb dX7_isSeen_54 (by decide) (fun (c6 : ¬ (F4 5 = sm kk)) => ?_) (fun (c6 : F4 5 = sm kk) => ?_)
    · skip
      refine lv_iconst (v := 0) hx hb dX7_isSeen_61 (by decide) ?_
      have er : r_X7_isSeen Z kk pg tr sa se sm p0 = 0 := by rw [r_X7_isSeen]; (try rw [hF3]); (try rw [hF4]); rw [if_pos c5, if_neg c6]
      have e0 : s_X7_isSeen_Z Z kk pg tr sa se sm p0 = F3 := by rw [s_X7_isSeen_Z]; (try rw [hF3]); (try rw [hF4]); rw [if_pos c5, if_neg c6]
      have e1 : s_X7_isSeen_tr Z kk pg tr sa se sm p0 = F4 := by rw [s_X7_isSeen_tr]; (try rw [hF3]); (try rw [hF4]); rw [if_pos c5, if_neg c6]
      exact k_zret kx hK hP11 hD12 hS10 (u := (F3, F4)) rfl ⟨er.symm, e0.symm, e1.symm⟩ kb0 dX7_isSeen_62
    · skip
      refine lv_iconst (v := 1) hx hb dX7_isSeen_57 (by decide) ?_
      refine lv_goto (tgt := 62) hx hb dX7_isSeen_58 (by decide) ?_
      have er : r_X7_isSeen Z kk pg tr sa se sm p0 = 1 := by rw [r_X7_isSeen]; (try rw [hF3]); (try rw [hF4]); rw [if_pos c5, if_pos c6]
      have e0 : s_X7_isSeen_Z Z kk pg tr sa se sm p0 = F3 := by rw [s_X7_isSeen_Z]; (try rw [hF3]); (try rw [hF4]); rw [if_pos c5, if_pos c6]
      have e1 : s_X7_isSeen_tr Z kk pg tr sa se sm p0 = F4 := by rw [s_X7_isSeen_tr]; (try rw [hF3]); (try rw [hF4]); rw [if_pos c5, if_pos c6]
      exact k_zret kx hK hP11 hD12 hS10 (u := (F3, F4)) rfl ⟨er.symm, e0.symm, e1.symm⟩ kb1 dX7_isSeen_62
  · skip
    refine k_top (y := 1) (hs.resolve_left c5) ?_
    refine lv_imul hx hb dX7_isSeen_44 ?_
    refine k_top (y := 16) (by decide +kernel) ?_
    refine lv_iconst (v := 5) hx hb dX7_isSeen_45 (by decide) ?_
    refine lv_iadd hx hb dX7_isSeen_46 ?_
    refine k_top (y := 21) (by decide +kernel) ?_
    refine k_iald (v := (F4 21)) kx hK hP11 2 rfl 21 rfl (by decide) (by decide) rfl dX7_isSeen_47 ?_
    refine lv_aload_n hx hb dX7_isSeen_48 rfl (lv_at hl 0 rfl) ?_
    refine va_get (ci := 7) (v := .ref q11) (C := RX7) (T := TX7) (N := 22) hx hb ht inX7 hown hK.1 hP11 0 rfl rfl 16 (by decide) (ht _ q_682) (fun _ h9 => h9) rfl dX7_isSeen_49 ?_
    refine lv_iload_n hx hb dX7_isSeen_52 rfl (lv_at hl 2 rfl) ?_
    refine k_iald (v := (sm kk)) kx hK hP11 5 rfl kk rfl hk (by decide) rfl dX7_isSeen_53 ?_
    refine lv_icmp_ne (x := F4 21) (y := sm kk) (tgt := 61) hx hb dX7_isSeen_54 (by decide) (fun (c7 : ¬ (F4 21 = sm kk)) => ?_) (fun (c7 : F4 21 = sm kk) => ?_)
    · skip
      refine lv_iconst (v := 0) hx hb dX7_isSeen_61 (by decide) ?_
      have er : r_X7_isSeen Z kk pg tr sa se sm p0 = 0 := by rw [r_X7_isSeen]; (try rw [hF3]); (try rw [hF4]); rw [if_neg c5, if_neg c7]
      have e0 : s_X7_isSeen_Z Z kk pg tr sa se sm p0 = F3 := by rw [s_X7_isSeen_Z]; (try rw [hF3]); (try rw [hF4]); rw [if_neg c5, if_neg c7]
      have e1 : s_X7_isSeen_tr Z kk pg tr sa se sm p0 = F4 := by rw [s_X7_isSeen_tr]; (try rw [hF3]); (try rw [hF4]); rw [if_neg c5, if_neg c7]
      exact k_zret kx hK hP11 hD12 hS10 (u := (F3, F4)) rfl ⟨er.symm, e0.symm, e1.symm⟩ kb0 dX7_isSeen_62
    · skip
      refine lv_iconst (v := 1) hx hb dX7_isSeen_57 (by decide) ?_
      refine lv_goto (tgt := 62) hx hb dX7_isSeen_58 (by decide) ?_
      have er : r_X7_isSeen Z kk pg tr sa se sm p0 = 1 := by rw [r_X7_isSeen]; (try rw [hF3]); (try rw [hF4]); rw [if_neg c5, if_pos c7]
      have e0 : s_X7_isSeen_Z Z kk pg tr sa se sm p0 = F3 := by rw [s_X7_isSeen_Z]; (try rw [hF3]); (try rw [hF4]); rw [if_neg c5, if_pos c7]
      have e1 : s_X7_isSeen_tr Z kk pg tr sa se sm p0 = F4 := by rw [s_X7_isSeen_tr]; (try rw [hF3]); (try rw [hF4]); rw [if_neg c5, if_pos c7]
      exact k_zret kx hK hP11 hD12 hS10 (u := (F3, F4)) rfl ⟨er.symm, e0.symm, e1.symm⟩ kb1 dX7_isSeen_62
theorem kbr_X7_isSeen (Z : Nat → Int32) (kk : Nat) (pg : Nat → Int32) (tr : Nat → Int32) (sa : Nat → Int32) (se : Nat → Int32) (sm : Nat → Int32) (p0 : Int32) : kb (r_X7_isSeen Z kk pg tr sa se sm p0) := by
  unfold r_X7_isSeen
  repeat' split
  all_goals first | exact kb0 | exact kb1

def t_X7_sentBy_1_tr (pg : Nat → Int32) (tr : Nat → Int32) (p0 : Int32) : Nat → Int32 := if (r_X7_has p0 0) = 0 then (upd (upd (s_X7_lay_t pg tr) 0 1) 3 1) else upd (upd (s_X7_lay_t pg tr) 0 (s_X7_lay_t pg tr 0)) 3 (s_X7_lay_t pg tr 3)
def t_X7_sentBy_2_tr (p0 : Int32) (F9 : Nat → Int32) : Nat → Int32 := if (r_X7_has p0 2) = 0 then (upd (upd (upd (upd F9 1 1) 4 1) 16 1) 19 1) else upd (upd (upd (upd F9 1 1) 4 1) 16 (F9 16)) 19 (F9 19)
def t_X7_sentBy_3_tr (p0 : Int32) (F9 : Nat → Int32) : Nat → Int32 := if (r_X7_has p0 2) = 0 then (upd (upd (upd (upd F9 1 (F9 1)) 4 (F9 4)) 16 1) 19 1) else upd (upd (upd (upd F9 1 (F9 1)) 4 (F9 4)) 16 (F9 16)) 19 (F9 19)
def r_X7_sentBy (Z : Nat → Int32) (pg : Nat → Int32) (tr : Nat → Int32) (p0 : Int32) : Int32 := if (r_X7_has p0 1) = 0 then (if (r_X7_has p0 3) = 0 then ((s_X7_goFor_f (upd (upd (upd Z 18 (-9)) 20 0) 21 6) (upd (upd (t_X7_sentBy_2_tr p0 (t_X7_sentBy_1_tr pg tr p0)) 17 1) 20 1) 60) 53) else (s_X7_goFor_f (upd (upd (upd Z 18 (-9)) 20 0) 21 6) (upd (upd (t_X7_sentBy_2_tr p0 (t_X7_sentBy_1_tr pg tr p0)) 17 ((t_X7_sentBy_2_tr p0 (t_X7_sentBy_1_tr pg tr p0)) 17)) 20 ((t_X7_sentBy_2_tr p0 (t_X7_sentBy_1_tr pg tr p0)) 20)) 60) 53) else if (r_X7_has p0 3) = 0 then ((s_X7_goFor_f (upd (upd (upd Z 18 (-9)) 20 0) 21 6) (upd (upd (t_X7_sentBy_3_tr p0 (t_X7_sentBy_1_tr pg tr p0)) 17 1) 20 1) 60) 53) else (s_X7_goFor_f (upd (upd (upd Z 18 (-9)) 20 0) 21 6) (upd (upd (t_X7_sentBy_3_tr p0 (t_X7_sentBy_1_tr pg tr p0)) 17 ((t_X7_sentBy_3_tr p0 (t_X7_sentBy_1_tr pg tr p0)) 17)) 20 ((t_X7_sentBy_3_tr p0 (t_X7_sentBy_1_tr pg tr p0)) 20)) 60) 53
def s_X7_sentBy_Z (Z : Nat → Int32) (pg : Nat → Int32) (tr : Nat → Int32) (p0 : Int32) : Nat → Int32 := if (r_X7_has p0 1) = 0 then (if (r_X7_has p0 3) = 0 then (s_X7_goFor_Z (upd (upd (upd Z 18 (-9)) 20 0) 21 6) (upd (upd (t_X7_sentBy_2_tr p0 (t_X7_sentBy_1_tr pg tr p0)) 17 1) 20 1) 60) else s_X7_goFor_Z (upd (upd (upd Z 18 (-9)) 20 0) 21 6) (upd (upd (t_X7_sentBy_2_tr p0 (t_X7_sentBy_1_tr pg tr p0)) 17 ((t_X7_sentBy_2_tr p0 (t_X7_sentBy_1_tr pg tr p0)) 17)) 20 ((t_X7_sentBy_2_tr p0 (t_X7_sentBy_1_tr pg tr p0)) 20)) 60) else if (r_X7_has p0 3) = 0 then (s_X7_goFor_Z (upd (upd (upd Z 18 (-9)) 20 0) 21 6) (upd (upd (t_X7_sentBy_3_tr p0 (t_X7_sentBy_1_tr pg tr p0)) 17 1) 20 1) 60) else s_X7_goFor_Z (upd (upd (upd Z 18 (-9)) 20 0) 21 6) (upd (upd (t_X7_sentBy_3_tr p0 (t_X7_sentBy_1_tr pg tr p0)) 17 ((t_X7_sentBy_3_tr p0 (t_X7_sentBy_1_tr pg tr p0)) 17)) 20 ((t_X7_sentBy_3_tr p0 (t_X7_sentBy_1_tr pg tr p0)) 20)) 60
def s_X7_sentBy_tr (Z : Nat → Int32) (pg : Nat → Int32) (tr : Nat → Int32) (p0 : Int32) : Nat → Int32 := if (r_X7_has p0 1) = 0 then (if (r_X7_has p0 3) = 0 then (s_X7_goFor_f (upd (upd (upd Z 18 (-9)) 20 0) 21 6) (upd (upd (t_X7_sentBy_2_tr p0 (t_X7_sentBy_1_tr pg tr p0)) 17 1) 20 1) 60) else s_X7_goFor_f (upd (upd (upd Z 18 (-9)) 20 0) 21 6) (upd (upd (t_X7_sentBy_2_tr p0 (t_X7_sentBy_1_tr pg tr p0)) 17 ((t_X7_sentBy_2_tr p0 (t_X7_sentBy_1_tr pg tr p0)) 17)) 20 ((t_X7_sentBy_2_tr p0 (t_X7_sentBy_1_tr pg tr p0)) 20)) 60) else if (r_X7_has p0 3) = 0 then (s_X7_goFor_f (upd (upd (upd Z 18 (-9)) 20 0) 21 6) (upd (upd (t_X7_sentBy_3_tr p0 (t_X7_sentBy_1_tr pg tr p0)) 17 1) 20 1) 60) else s_X7_goFor_f (upd (upd (upd Z 18 (-9)) 20 0) 21 6) (upd (upd (t_X7_sentBy_3_tr p0 (t_X7_sentBy_1_tr pg tr p0)) 17 ((t_X7_sentBy_3_tr p0 (t_X7_sentBy_1_tr pg tr p0)) 17)) 20 ((t_X7_sentBy_3_tr p0 (t_X7_sentBy_1_tr pg tr p0)) 20)) 60
set_option maxHeartbeats 4000000 in
set_option maxRecDepth 100000 in
theorem c_X7_sentBy (l : Launch) (G : kG) (Z : Nat → Int32) (sd : Int64) (h0 : Nat) (q1 : Nat) (q2 : Nat) (q3 : Nat) (q4 : Nat) (q5 : Nat) (q6 : Nat) (q7 : Nat) (q8 : Nat) (q9 : Nat) (q10 : Nat) (q11 : Nat) (pg : Nat → Int32) (tr : Nat → Int32) (p0 : Int32) : cG l G yX7_sentBy cX7_sentBy 4 (some .int) 6 [.ref h0, .int p0] ([(h0, .inr (7, cM Z q1 q2 q3 q4 q5 q6 q7 q8 q9 q10 q11 sd)), (q4, .inl (G.2.1, 55, .inl pg)), (q5, .inl (G.2.1, 55, .inl tr))]) (qI G (fun (r : Int32) (u : ((Nat → Int32) × (Nat → Int32))) => r = r_X7_sentBy Z pg tr p0 ∧ u.1 = s_X7_sentBy_Z Z pg tr p0 ∧ u.2 = s_X7_sentBy_tr Z pg tr p0) (fun u => [(h0, .inr (7, cM u.1 q1 q2 q3 q4 q5 q6 q7 q8 q9 q10 q11 sd)), (q4, .inl (G.2.1, 55, .inl pg)), (q5, .inl (G.2.1, 55, .inl u.2))])) := by
  refine kintro (by decide) (Nat.le_of_ble_eq_true rfl) ?_
  intro p e s m args below meth c A ls kx hK hP hD hS hA hl
  have kx : kX p s m args meth c cX7_sentBy 4 (some .int) RX7 := kx
  have hx := kx.1
  have hb := kx.2.1
  have hown := kx.2.2.2.2.1
  have ht := kx.2.2.2.2.2.2
  have hl : lv_has ls 4 [(0, .ref h0), (1, .int p0)] := hl
  refine lv_aload_n hx hb dX7_sentBy_0 rfl (lv_at hl 0 rfl) ?_
  refine k_callv (kRunV (As := []) (rest := []) kx (c_X7_layTrial l G Z sd h0 q1 q2 q3 q4 q5 q6 q7 q8 q9 q10 q11 pg tr) q_774 q_771 q_36 q_773 q_16 nX7_layTrial ⟨Nat.le_of_ble_eq_true rfl, Nat.le_of_ble_eq_true rfl⟩ hK hP hD (kCtx_all _) 0 7 rfl rfl rfl rfl hl.1 (Nat.le_of_ble_eq_true rfl) dX7_sentBy_1 ⟨Nat.zero_le _, Nat.zero_le _⟩) hP hD hS hA (kCtx_all _) (fun _ => rfl) (fun _ H1 locs1 hw hP1 hD1 hS1 => ?_)
  have hP2 : va_P G.1 vwCl ([(h0, .inr (7, cM (upd (upd (upd Z 18 (-9)) 20 0) 21 6) q1 q2 q3 q4 q5 q6 q7 q8 q9 q10 q11 sd)), (q4, .inl (G.2.1, 55, .inl pg)), (q5, .inl (G.2.1, 55, .inl (s_X7_lay_t pg tr)))]) H1 := hP1
  have hD3 : va_D A ([(h0, .inr (7, cM (upd (upd (upd Z 18 (-9)) 20 0) 21 6) q1 q2 q3 q4 q5 q6 q7 q8 q9 q10 q11 sd)), (q4, .inl (G.2.1, 55, .inl pg)), (q5, .inl (G.2.1, 55, .inl (s_X7_lay_t pg tr)))]) := hD1
  refine lv_iconst (v := 0) hx hb dX7_sentBy_4 (by decide) ?_
  refine lv_istore_n (lv' := [(2, .int 0), (0, .ref h0), (1, .int p0)]) hx hb dX7_sentBy_5 rfl hl (by decide) rfl (fun ls4 hl4 => ?_)
  have cut1 : ∀ (F9 : Nat → Int32) (H : Heap) (locs : List Loc) (ls : Array Slot), (hF9 : t_X7_sentBy_1_tr pg tr p0 = F9) → va_P G.1 vwCl ([(h0, .inr (7, cM (upd (upd (upd Z 18 (-9)) 20 0) 21 6) q1 q2 q3 q4 q5 q6 q7 q8 q9 q10 q11 sd)), (q4, .inl (G.2.1, 55, .inl pg)), (q5, .inl (G.2.1, 55, .inl F9))]) H → va_D A ([(h0, .inr (7, cM (upd (upd (upd Z 18 (-9)) 20 0) 21 6) q1 q2 q3 q4 q5 q6 q7 q8 q9 q10 q11 sd)), (q4, .inl (G.2.1, 55, .inl pg)), (q5, .inl (G.2.1, 55, .inl F9))]) → va_S A s.heap H locs → lv_has ls 4 [(0, .ref h0), (1, .int p0), (2, .int 1), (3, .int 0)] → W p l e (kr 6) s m args below meth c H locs 0 0 (MQ below (qI G (fun (r : Int32) (u : ((Nat → Int32) × (Nat → Int32))) => r = r_X7_sentBy Z pg tr p0 ∧ u.1 = s_X7_sentBy_Z Z pg tr p0 ∧ u.2 = s_X7_sentBy_tr Z pg tr p0) (fun u => [(h0, .inr (7, cM u.1 q1 q2 q3 q4 q5 q6 q7 q8 q9 q10 q11 sd)), (q4, .inl (G.2.1, 55, .inl pg)), (q5, .inl (G.2.1, 55, .inl u.2))]) A) args s 0 0 A) (F0 m 6 ls []) := by
    intro F9 H5 locs5 ls5 hF9 hP5 hD5 hS5 hl5
    refine lv_iload_n hx hb dX7_sentBy_6 rfl (lv_at hl5 2 rfl) ?_
    refine lv_iconst (v := 4) hx hb dX7_sentBy_7 (by decide) ?_
    refine lv_icmp_ge (x := 1) (y := 4) (tgt := 80) hx hb dX7_sentBy_8 (by decide) (fun (c10 : 4 ≤ 1) => absurd c10 (by decide)) (fun (c10 : ¬ (4 ≤ 1)) => ?_)
    refine lv_bipush (v := 16) hx hb dX7_sentBy_11 (by decide) ?_
    refine lv_iload_n hx hb dX7_sentBy_13 rfl (lv_at hl5 2 rfl) ?_
    refine lv_iconst (v := 2) hx hb dX7_sentBy_14 (by decide) ?_
    refine lv_idiv hx hb dX7_sentBy_15 (by decide) ?_
    refine k_top (y := 0) (by decide +kernel) ?_
    refine lv_imul hx hb dX7_sentBy_16 ?_
    refine k_top (y := 0) (by decide +kernel) ?_
    refine lv_iload_n hx hb dX7_sentBy_17 rfl (lv_at hl5 2 rfl) ?_
    refine lv_iconst (v := 2) hx hb dX7_sentBy_18 (by decide) ?_
    refine lv_irem hx hb dX7_sentBy_19 (by decide) ?_
    refine k_top (y := 1) (by decide +kernel) ?_
    refine lv_iadd hx hb dX7_sentBy_20 ?_
    refine k_top (y := 1) (by decide +kernel) ?_
    refine lv_istore_n (lv' := [(3, .int 1), (0, .ref h0), (1, .int p0), (2, .int 1)]) hx hb dX7_sentBy_21 rfl hl5 (by decide) rfl (fun ls6 hl6 => ?_)
    refine lv_aload_n hx hb dX7_sentBy_22 rfl (lv_at hl6 1 rfl) ?_
    refine va_get (ci := 7) (v := .ref q5) (C := RX7) (T := TX7) (N := 22) hx hb ht inX7 hown hK.1 hP5 0 rfl rfl 8 (by decide) (ht _ q_674) (fun _ h9 => h9) rfl dX7_sentBy_23 ?_
    refine lv_iload_n hx hb dX7_sentBy_26 rfl (lv_at hl6 0 rfl) ?_
    refine lv_iload_n hx hb dX7_sentBy_27 rfl (lv_at hl6 2 rfl) ?_
    refine lv_iload_n hx hb dX7_sentBy_28 rfl (lv_at hl6 3 rfl) ?_
    refine k_calli (kRunS (As := [.int p0, .int 1]) (rest := [.int 1, .ref q5]) kx (c_X7_has l G p0 1) q_814 q_812 q_36 q_813 nX7_has ⟨Nat.le_of_ble_eq_true rfl, Nat.le_of_ble_eq_true rfl⟩ hK hP5 hD5 (kCtx_nil _) rfl hl6.1 (Nat.le_of_ble_eq_true rfl) dX7_sentBy_29 ⟨Nat.zero_le _, Nat.zero_le _⟩) hP5 hD5 hS5 hA (kCtx_nil _) (fun _ => rfl) (fun r11 _ H7 locs7 hw hP7 hD7 hS7 => ?_)
    have hr11 : r_X7_has p0 1 = r11 := (show r11 = r_X7_has p0 1 from hw).symm
    have hP8 : va_P G.1 vwCl ([(h0, .inr (7, cM (upd (upd (upd Z 18 (-9)) 20 0) 21 6) q1 q2 q3 q4 q5 q6 q7 q8 q9 q10 q11 sd)), (q4, .inl (G.2.1, 55, .inl pg)), (q5, .inl (G.2.1, 55, .inl F9))]) H7 := hP7
    have hD9 : va_D A ([(h0, .inr (7, cM (upd (upd (upd Z 18 (-9)) 20 0) 21 6) q1 q2 q3 q4 q5 q6 q7 q8 q9 q10 q11 sd)), (q4, .inl (G.2.1, 55, .inl pg)), (q5, .inl (G.2.1, 55, .inl F9))]) := hD7
    refine lv_if_eq (x := r11) (tgt := 44) hx hb dX7_sentBy_32 (by decide) (fun (c12 : r11 = 0) => ?_) (fun (c12 : ¬ (r11 = 0)) => ?_)
    · skip
      refine lv_iconst (v := 1) hx hb dX7_sentBy_44 (by decide) ?_
      refine k_iast kx hK hP8 hD9 hS7 2 rfl 1 rfl (by decide) (by decide) dX7_sentBy_45 (fun H10 locs10 hP10 hD10 hS10 => ?_)
      have hP11 : va_P G.1 vwCl ([(h0, .inr (7, cM (upd (upd (upd Z 18 (-9)) 20 0) 21 6) q1 q2 q3 q4 q5 q6 q7 q8 q9 q10 q11 sd)), (q4, .inl (G.2.1, 55, .inl pg)), (q5, .inl (G.2.1, 55, .inl (upd F9 1 1)))]) H10 := hP10
      have hD12 : va_D A ([(h0, .inr (7, cM (upd (upd (upd Z 18 (-9)) 20 0) 21 6) q1 q2 q3 q4 q5 q6 q7 q8 q9 q10 q11 sd)), (q4, .inl (G.2.1, 55, .inl pg)), (q5, .inl (G.2.1, 55, .inl (upd F9 1 1)))]) := hD10
      refine lv_aload_n hx hb dX7_sentBy_46 rfl (lv_at hl6 1 rfl) ?_
      refine va_get (ci := 7) (v := .ref q5) (C := RX7) (T := TX7) (N := 22) hx hb ht inX7 hown hK.1 hP11 0 rfl rfl 8 (by decide) (ht _ q_674) (fun _ h9 => h9) rfl dX7_sentBy_47 ?_
      refine lv_iload_n hx hb dX7_sentBy_50 rfl (lv_at hl6 0 rfl) ?_
      refine lv_iconst (v := 3) hx hb dX7_sentBy_51 (by decide) ?_
      refine lv_iadd hx hb dX7_sentBy_52 ?_
      refine k_top (y := 4) (by decide +kernel) ?_
      refine lv_iload_n hx hb dX7_sentBy_53 rfl (lv_at hl6 2 rfl) ?_
      refine lv_iload_n hx hb dX7_sentBy_54 rfl (lv_at hl6 3 rfl) ?_
      refine k_calli (kRunS (As := [.int p0, .int 1]) (rest := [.int 4, .ref q5]) kx (c_X7_has l G p0 1) q_814 q_812 q_36 q_813 nX7_has ⟨Nat.le_of_ble_eq_true rfl, Nat.le_of_ble_eq_true rfl⟩ hK hP11 hD12 (kCtx_nil _) rfl hl6.1 (Nat.le_of_ble_eq_true rfl) dX7_sentBy_55 ⟨Nat.zero_le _, Nat.zero_le _⟩) hP11 hD12 hS10 hA (kCtx_nil _) (fun _ => rfl) (fun r13 _ H13 locs13 hw hP13 hD13 hS13 => ?_)
      have hr13 : r_X7_has p0 1 = r13 := (show r13 = r_X7_has p0 1 from hw).symm
      have heq : r11 = r13 := hr11.symm.trans hr13
      subst heq
      have hP14 : va_P G.1 vwCl ([(h0, .inr (7, cM (upd (upd (upd Z 18 (-9)) 20 0) 21 6) q1 q2 q3 q4 q5 q6 q7 q8 q9 q10 q11 sd)), (q4, .inl (G.2.1, 55, .inl pg)), (q5, .inl (G.2.1, 55, .inl (upd F9 1 1)))]) H13 := hP13
      have hD15 : va_D A ([(h0, .inr (7, cM (upd (upd (upd Z 18 (-9)) 20 0) 21 6) q1 q2 q3 q4 q5 q6 q7 q8 q9 q10 q11 sd)), (q4, .inl (G.2.1, 55, .inl pg)), (q5, .inl (G.2.1, 55, .inl (upd F9 1 1)))]) := hD13
      refine lv_if_eq (x := r11) (tgt := 72) hx hb dX7_sentBy_58 (by decide) (fun (c14 : r11 = 0) => ?_) (fun (c14 : ¬ (r11 = 0)) => absurd c12 c14)
      refine lv_iconst (v := 1) hx hb dX7_sentBy_72 (by decide) ?_
      refine k_iast kx hK hP14 hD15 hS13 2 rfl 4 rfl (by decide) (by decide) dX7_sentBy_73 (fun H16 locs16 hP16 hD16 hS16 => ?_)
      have hP17 : va_P G.1 vwCl ([(h0, .inr (7, cM (upd (upd (upd Z 18 (-9)) 20 0) 21 6) q1 q2 q3 q4 q5 q6 q7 q8 q9 q10 q11 sd)), (q4, .inl (G.2.1, 55, .inl pg)), (q5, .inl (G.2.1, 55, .inl (upd (upd F9 1 1) 4 1)))]) H16 := hP16
      have hD18 : va_D A ([(h0, .inr (7, cM (upd (upd (upd Z 18 (-9)) 20 0) 21 6) q1 q2 q3 q4 q5 q6 q7 q8 q9 q10 q11 sd)), (q4, .inl (G.2.1, 55, .inl pg)), (q5, .inl (G.2.1, 55, .inl (upd (upd F9 1 1) 4 1)))]) := hD16
      refine lv_iinc (v := 2) (lv' := [(2, .int 2), (3, .int 1), (0, .ref h0), (1, .int p0)]) hx hb dX7_sentBy_74 hl6 (k := 3) rfl (by decide +kernel) (by decide) rfl (fun ls19 hl19 => ?_)
      refine lv_goto (tgt := 6) hx hb dX7_sentBy_77 (by decide) ?_
      have cut2 : ∀ (F22 : Nat → Int32) (H : Heap) (locs : List Loc) (ls : Array Slot), (hF22 : t_X7_sentBy_2_tr p0 F9 = F22) → va_P G.1 vwCl ([(h0, .inr (7, cM (upd (upd (upd Z 18 (-9)) 20 0) 21 6) q1 q2 q3 q4 q5 q6 q7 q8 q9 q10 q11 sd)), (q4, .inl (G.2.1, 55, .inl pg)), (q5, .inl (G.2.1, 55, .inl F22))]) H → va_D A ([(h0, .inr (7, cM (upd (upd (upd Z 18 (-9)) 20 0) 21 6) q1 q2 q3 q4 q5 q6 q7 q8 q9 q10 q11 sd)), (q4, .inl (G.2.1, 55, .inl pg)), (q5, .inl (G.2.1, 55, .inl F22))]) → va_S A s.heap H locs → lv_has ls 4 [(0, .ref h0), (1, .int p0), (2, .int 3), (3, .int 16)] → W p l e (kr 6) s m args below meth c H locs 0 0 (MQ below (qI G (fun (r : Int32) (u : ((Nat → Int32) × (Nat → Int32))) => r = r_X7_sentBy Z pg tr p0 ∧ u.1 = s_X7_sentBy_Z Z pg tr p0 ∧ u.2 = s_X7_sentBy_tr Z pg tr p0) (fun u => [(h0, .inr (7, cM u.1 q1 q2 q3 q4 q5 q6 q7 q8 q9 q10 q11 sd)), (q4, .inl (G.2.1, 55, .inl pg)), (q5, .inl (G.2.1, 55, .inl u.2))]) A) args s 0 0 A) (F0 m 6 ls []) := by
        intro F22 H20 locs20 ls20 hF22 hP20 hD20 hS20 hl20
        refine lv_iload_n hx hb dX7_sentBy_6 rfl (lv_at hl20 2 rfl) ?_
        refine lv_iconst (v := 4) hx hb dX7_sentBy_7 (by decide) ?_
        refine lv_icmp_ge (x := 3) (y := 4) (tgt := 80) hx hb dX7_sentBy_8 (by decide) (fun (c23 : 4 ≤ 3) => absurd c23 (by decide)) (fun (c23 : ¬ (4 ≤ 3)) => ?_)
        refine lv_bipush (v := 16) hx hb dX7_sentBy_11 (by decide) ?_
        refine lv_iload_n hx hb dX7_sentBy_13 rfl (lv_at hl20 2 rfl) ?_
        refine lv_iconst (v := 2) hx hb dX7_sentBy_14 (by decide) ?_
        refine lv_idiv hx hb dX7_sentBy_15 (by decide) ?_
        refine k_top (y := 1) (by decide +kernel) ?_
        refine lv_imul hx hb dX7_sentBy_16 ?_
        refine k_top (y := 16) (by decide +kernel) ?_
        refine lv_iload_n hx hb dX7_sentBy_17 rfl (lv_at hl20 2 rfl) ?_
        refine lv_iconst (v := 2) hx hb dX7_sentBy_18 (by decide) ?_
        refine lv_irem hx hb dX7_sentBy_19 (by decide) ?_
        refine k_top (y := 1) (by decide +kernel) ?_
        refine lv_iadd hx hb dX7_sentBy_20 ?_
        refine k_top (y := 17) (by decide +kernel) ?_
        refine lv_istore_n (lv' := [(3, .int 17), (0, .ref h0), (1, .int p0), (2, .int 3)]) hx hb dX7_sentBy_21 rfl hl20 (by decide) rfl (fun ls21 hl21 => ?_)
        refine lv_aload_n hx hb dX7_sentBy_22 rfl (lv_at hl21 1 rfl) ?_
        refine va_get (ci := 7) (v := .ref q5) (C := RX7) (T := TX7) (N := 22) hx hb ht inX7 hown hK.1 hP20 0 rfl rfl 8 (by decide) (ht _ q_674) (fun _ h9 => h9) rfl dX7_sentBy_23 ?_
        refine lv_iload_n hx hb dX7_sentBy_26 rfl (lv_at hl21 0 rfl) ?_
        refine lv_iload_n hx hb dX7_sentBy_27 rfl (lv_at hl21 2 rfl) ?_
        refine lv_iload_n hx hb dX7_sentBy_28 rfl (lv_at hl21 3 rfl) ?_
        refine k_calli (kRunS (As := [.int p0, .int 3]) (rest := [.int 17, .ref q5]) kx (c_X7_has l G p0 3) q_814 q_812 q_36 q_813 nX7_has ⟨Nat.le_of_ble_eq_true rfl, Nat.le_of_ble_eq_true rfl⟩ hK hP20 hD20 (kCtx_nil _) rfl hl21.1 (Nat.le_of_ble_eq_true rfl) dX7_sentBy_29 ⟨Nat.zero_le _, Nat.zero_le _⟩) hP20 hD20 hS20 hA (kCtx_nil _) (fun _ => rfl) (fun r24 _ H22 locs22 hw hP22 hD22 hS22 => ?_)
        have hr24 : r_X7_has p0 3 = r24 := (show r24 = r_X7_has p0 3 from hw).symm
        have hP23 : va_P G.1 vwCl ([(h0, .inr (7, cM (upd (upd (upd Z 18 (-9)) 20 0) 21 6) q1 q2 q3 q4 q5 q6 q7 q8 q9 q10 q11 sd)), (q4, .inl (G.2.1, 55, .inl pg)), (q5, .inl (G.2.1, 55, .inl F22))]) H22 := hP22
        have hD24 : va_D A ([(h0, .inr (7, cM (upd (upd (upd Z 18 (-9)) 20 0) 21 6) q1 q2 q3 q4 q5 q6 q7 q8 q9 q10 q11 sd)), (q4, .inl (G.2.1, 55, .inl pg)), (q5, .inl (G.2.1, 55, .inl F22))]) := hD22
        refine lv_if_eq (x := r24) (tgt := 44) hx hb dX7_sentBy_32 (by decide) (fun (c25 : r24 = 0) => ?_) (fun (c25 : ¬ (r24 = 0)) => ?_)
        · skip
          refine lv_iconst (v := 1) hx hb dX7_sentBy_44 (by decide) ?_
          refine k_iast kx hK hP23 hD24 hS22 2 rfl 17 rfl (by decide) (by decide) dX7_sentBy_45 (fun H25 locs25 hP25 hD25 hS25 => ?_)
          have hP26 : va_P G.1 vwCl ([(h0, .inr (7, cM (upd (upd (upd Z 18 (-9)) 20 0) 21 6) q1 q2 q3 q4 q5 q6 q7 q8 q9 q10 q11 sd)), (q4, .inl (G.2.1, 55, .inl pg)), (q5, .inl (G.2.1, 55, .inl (upd F22 17 1)))]) H25 := hP25
          have hD27 : va_D A ([(h0, .inr (7, cM (upd (upd (upd Z 18 (-9)) 20 0) 21 6) q1 q2 q3 q4 q5 q6 q7 q8 q9 q10 q11 sd)), (q4, .inl (G.2.1, 55, .inl pg)), (q5, .inl (G.2.1, 55, .inl (upd F22 17 1)))]) := hD25
          refine lv_aload_n hx hb dX7_sentBy_46 rfl (lv_at hl21 1 rfl) ?_
          refine va_get (ci := 7) (v := .ref q5) (C := RX7) (T := TX7) (N := 22) hx hb ht inX7 hown hK.1 hP26 0 rfl rfl 8 (by decide) (ht _ q_674) (fun _ h9 => h9) rfl dX7_sentBy_47 ?_
          refine lv_iload_n hx hb dX7_sentBy_50 rfl (lv_at hl21 0 rfl) ?_
          refine lv_iconst (v := 3) hx hb dX7_sentBy_51 (by decide) ?_
          refine lv_iadd hx hb dX7_sentBy_52 ?_
          refine k_top (y := 20) (by decide +kernel) ?_
          refine lv_iload_n hx hb dX7_sentBy_53 rfl (lv_at hl21 2 rfl) ?_
          refine lv_iload_n hx hb dX7_sentBy_54 rfl (lv_at hl21 3 rfl) ?_
          refine k_calli (kRunS (As := [.int p0, .int 3]) (rest := [.int 20, .ref q5]) kx (c_X7_has l G p0 3) q_814 q_812 q_36 q_813 nX7_has ⟨Nat.le_of_ble_eq_true rfl, Nat.le_of_ble_eq_true rfl⟩ hK hP26 hD27 (kCtx_nil _) rfl hl21.1 (Nat.le_of_ble_eq_true rfl) dX7_sentBy_55 ⟨Nat.zero_le _, Nat.zero_le _⟩) hP26 hD27 hS25 hA (kCtx_nil _) (fun _ => rfl) (fun r26 _ H28 locs28 hw hP28 hD28 hS28 => ?_)
          have hr26 : r_X7_has p0 3 = r26 := (show r26 = r_X7_has p0 3 from hw).symm
          have heq : r24 = r26 := hr24.symm.trans hr26
          subst heq
          have hP29 : va_P G.1 vwCl ([(h0, .inr (7, cM (upd (upd (upd Z 18 (-9)) 20 0) 21 6) q1 q2 q3 q4 q5 q6 q7 q8 q9 q10 q11 sd)), (q4, .inl (G.2.1, 55, .inl pg)), (q5, .inl (G.2.1, 55, .inl (upd F22 17 1)))]) H28 := hP28
          have hD30 : va_D A ([(h0, .inr (7, cM (upd (upd (upd Z 18 (-9)) 20 0) 21 6) q1 q2 q3 q4 q5 q6 q7 q8 q9 q10 q11 sd)), (q4, .inl (G.2.1, 55, .inl pg)), (q5, .inl (G.2.1, 55, .inl (upd F22 17 1)))]) := hD28
          refine lv_if_eq (x := r24) (tgt := 72) hx hb dX7_sentBy_58 (by decide) (fun (c27 : r24 = 0) => ?_) (fun (c27 : ¬ (r24 = 0)) => absurd c25 c27)
          refine lv_iconst (v := 1) hx hb dX7_sentBy_72 (by decide) ?_
          refine k_iast kx hK hP29 hD30 hS28 2 rfl 20 rfl (by decide) (by decide) dX7_sentBy_73 (fun H31 locs31 hP31 hD31 hS31 => ?_)
          have hP32 : va_P G.1 vwCl ([(h0, .inr (7, cM (upd (upd (upd Z 18 (-9)) 20 0) 21 6) q1 q2 q3 q4 q5 q6 q7 q8 q9 q10 q11 sd)), (q4, .inl (G.2.1, 55, .inl pg)), (q5, .inl (G.2.1, 55, .inl (upd (upd F22 17 1) 20 1)))]) H31 := hP31
          have hD33 : va_D A ([(h0, .inr (7, cM (upd (upd (upd Z 18 (-9)) 20 0) 21 6) q1 q2 q3 q4 q5 q6 q7 q8 q9 q10 q11 sd)), (q4, .inl (G.2.1, 55, .inl pg)), (q5, .inl (G.2.1, 55, .inl (upd (upd F22 17 1) 20 1)))]) := hD31
          refine lv_iinc (v := 4) (lv' := [(2, .int 4), (3, .int 17), (0, .ref h0), (1, .int p0)]) hx hb dX7_sentBy_74 hl21 (k := 3) rfl (by decide +kernel) (by decide) rfl (fun ls34 hl34 => ?_)
          refine lv_goto (tgt := 6) hx hb dX7_sentBy_77 (by decide) ?_
          refine lv_iload_n hx hb dX7_sentBy_6 rfl (lv_at hl34 0 rfl) ?_
          refine lv_iconst (v := 4) hx hb dX7_sentBy_7 (by decide) ?_
          refine lv_icmp_ge (x := 4) (y := 4) (tgt := 80) hx hb dX7_sentBy_8 (by decide) (fun (c28 : 4 ≤ 4) => ?_) (fun (c28 : ¬ (4 ≤ 4)) => absurd (by decide) c28)
          refine lv_aload_n hx hb dX7_sentBy_80 rfl (lv_at hl34 2 rfl) ?_
          refine lv_aload_n hx hb dX7_sentBy_81 rfl (lv_at hl34 2 rfl) ?_
          refine va_get (ci := 7) (v := .ref q5) (C := RX7) (T := TX7) (N := 22) hx hb ht inX7 hown hK.1 hP32 0 rfl rfl 8 (by decide) (ht _ q_674) (fun _ h9 => h9) rfl dX7_sentBy_82 ?_
          refine lv_bipush (v := 60) hx hb dX7_sentBy_85 (by decide) ?_
          refine k_callv (kRunV (As := [.ref q5, .int 60]) (rest := []) kx (c_X7_goFor l G (upd (upd (upd Z 18 (-9)) 20 0) 21 6) sd h0 q1 q2 q3 q4 q5 q6 q7 q8 q9 q10 q11 (upd (upd F22 17 1) 20 1) q5 60) q_778 q_775 q_36 q_777 q_17 nX7_goFor ⟨Nat.le_of_ble_eq_true rfl, Nat.le_of_ble_eq_true rfl⟩ hK hP32 hD33 (kCtx_places _ _ [0, 2] rfl rfl) 0 7 rfl rfl rfl rfl hl34.1 (Nat.le_of_ble_eq_true rfl) dX7_sentBy_87 ⟨Nat.zero_le _, Nat.zero_le _⟩) hP32 hD33 hS31 hA (kCtx_places _ _ [0, 2] rfl rfl) (fun _ => rfl) (fun u H35 locs35 hw hP35 hD35 hS35 => ?_)
          obtain ⟨F30, F31⟩ := u
          obtain ⟨hF30, hF31⟩ := hw
          have hF30 : s_X7_goFor_Z (upd (upd (upd Z 18 (-9)) 20 0) 21 6) (upd (upd F22 17 1) 20 1) 60 = F30 := (show F30 = s_X7_goFor_Z (upd (upd (upd Z 18 (-9)) 20 0) 21 6) (upd (upd F22 17 1) 20 1) 60 from hF30).symm
          have hF31 : s_X7_goFor_f (upd (upd (upd Z 18 (-9)) 20 0) 21 6) (upd (upd F22 17 1) 20 1) 60 = F31 := (show F31 = s_X7_goFor_f (upd (upd (upd Z 18 (-9)) 20 0) 21 6) (upd (upd F22 17 1) 20 1) 60 from hF31).symm
          have hP36 : va_P G.1 vwCl ([(h0, .inr (7, cM F30 q1 q2 q3 q4 q5 q6 q7 q8 q9 q10 q11 sd)), (q4, .inl (G.2.1, 55, .inl pg)), (q5, .inl (G.2.1, 55, .inl F31))]) H35 := hP35
          have hD37 : va_D A ([(h0, .inr (7, cM F30 q1 q2 q3 q4 q5 q6 q7 q8 q9 q10 q11 sd)), (q4, .inl (G.2.1, 55, .inl pg)), (q5, .inl (G.2.1, 55, .inl F31))]) := hD35
          refine lv_aload_n hx hb dX7_sentBy_90 rfl (lv_at hl34 2 rfl) ?_
          refine va_get (ci := 7) (v := .ref q5) (C := RX7) (T := TX7) (N := 22) hx hb ht inX7 hown hK.1 hP36 0 rfl rfl 8 (by decide) (ht _ q_674) (fun _ h9 => h9) rfl dX7_sentBy_91 ?_
          refine lv_bipush (v := 53) hx hb dX7_sentBy_94 (by decide) ?_
          refine k_iald (v := (F31 53)) kx hK hP36 2 rfl 53 rfl (by decide) (by decide) rfl dX7_sentBy_96 ?_
          have er : r_X7_sentBy Z pg tr p0 = F31 53 := by rw [r_X7_sentBy]; (try rw [hF9]); (try rw [hr11]); (try rw [hF22]); (try rw [hr24]); (try rw [hF30]); (try rw [hF31]); rw [if_pos c12, if_pos c25]
          have e0 : s_X7_sentBy_Z Z pg tr p0 = F30 := by rw [s_X7_sentBy_Z]; (try rw [hF9]); (try rw [hr11]); (try rw [hF22]); (try rw [hr24]); (try rw [hF30]); (try rw [hF31]); rw [if_pos c12, if_pos c25]
          have e1 : s_X7_sentBy_tr Z pg tr p0 = F31 := by rw [s_X7_sentBy_tr]; (try rw [hF9]); (try rw [hr11]); (try rw [hF22]); (try rw [hr24]); (try rw [hF30]); (try rw [hF31]); rw [if_pos c12, if_pos c25]
          exact k_iret kx hK hP36 hD37 hS35 (u := (F30, F31)) rfl ⟨er.symm, e0.symm, e1.symm⟩ dX7_sentBy_97
        · skip
          refine lv_aload_n hx hb dX7_sentBy_35 rfl (lv_at hl21 1 rfl) ?_
          refine va_get (ci := 7) (v := .ref q5) (C := RX7) (T := TX7) (N := 22) hx hb ht inX7 hown hK.1 hP23 0 rfl rfl 8 (by decide) (ht _ q_674) (fun _ h9 => h9) rfl dX7_sentBy_36 ?_
          refine lv_iload_n hx hb dX7_sentBy_39 rfl (lv_at hl21 0 rfl) ?_
          refine k_iald (v := (F22 17)) kx hK hP23 2 rfl 17 rfl (by decide) (by decide) rfl dX7_sentBy_40 ?_
          refine lv_goto (tgt := 45) hx hb dX7_sentBy_41 (by decide) ?_
          refine k_iast kx hK hP23 hD24 hS22 2 rfl 17 rfl (by decide) (by decide) dX7_sentBy_45 (fun H38 locs38 hP38 hD38 hS38 => ?_)
          have hP39 : va_P G.1 vwCl ([(h0, .inr (7, cM (upd (upd (upd Z 18 (-9)) 20 0) 21 6) q1 q2 q3 q4 q5 q6 q7 q8 q9 q10 q11 sd)), (q4, .inl (G.2.1, 55, .inl pg)), (q5, .inl (G.2.1, 55, .inl (upd F22 17 (F22 17))))]) H38 := hP38
          have hD40 : va_D A ([(h0, .inr (7, cM (upd (upd (upd Z 18 (-9)) 20 0) 21 6) q1 q2 q3 q4 q5 q6 q7 q8 q9 q10 q11 sd)), (q4, .inl (G.2.1, 55, .inl pg)), (q5, .inl (G.2.1, 55, .inl (upd F22 17 (F22 17))))]) := hD38
          refine lv_aload_n hx hb dX7_sentBy_46 rfl (lv_at hl21 1 rfl) ?_
          refine va_get (ci := 7) (v := .ref q5) (C := RX7) (T := TX7) (N := 22) hx hb ht inX7 hown hK.1 hP39 0 rfl rfl 8 (by decide) (ht _ q_674) (fun _ h9 => h9) rfl dX7_sentBy_47 ?_
          refine lv_iload_n hx hb dX7_sentBy_50 rfl (lv_at hl21 0 rfl) ?_
          refine lv_iconst (v := 3) hx hb dX7_sentBy_51 (by decide) ?_
          refine lv_iadd hx hb dX7_sentBy_52 ?_
          refine k_top (y := 20) (by decide +kernel) ?_
          refine lv_iload_n hx hb dX7_sentBy_53 rfl (lv_at hl21 2 rfl) ?_
          refine lv_iload_n hx hb dX7_sentBy_54 rfl (lv_at hl21 3 rfl) ?_
          refine k_calli (kRunS (As := [.int p0, .int 3]) (rest := [.int 20, .ref q5]) kx (c_X7_has l G p0 3) q_814 q_812 q_36 q_813 nX7_has ⟨Nat.le_of_ble_eq_true rfl, Nat.le_of_ble_eq_true rfl⟩ hK hP39 hD40 (kCtx_nil _) rfl hl21.1 (Nat.le_of_ble_eq_true rfl) dX7_sentBy_55 ⟨Nat.zero_le _, Nat.zero_le _⟩) hP39 hD40 hS38 hA (kCtx_nil _) (fun _ => rfl) (fun r32 _ H41 locs41 hw hP41 hD41 hS41 => ?_)
          have hr32 : r_X7_has p0 3 = r32 := (show r32 = r_X7_has p0 3 from hw).symm
          have heq : r24 = r32 := hr24.symm.trans hr32
          subst heq
          have hP42 : va_P G.1 vwCl ([(h0, .inr (7, cM (upd (upd (upd Z 18 (-9)) 20 0) 21 6) q1 q2 q3 q4 q5 q6 q7 q8 q9 q10 q11 sd)), (q4, .inl (G.2.1, 55, .inl pg)), (q5, .inl (G.2.1, 55, .inl (upd F22 17 (F22 17))))]) H41 := hP41
          have hD43 : va_D A ([(h0, .inr (7, cM (upd (upd (upd Z 18 (-9)) 20 0) 21 6) q1 q2 q3 q4 q5 q6 q7 q8 q9 q10 q11 sd)), (q4, .inl (G.2.1, 55, .inl pg)), (q5, .inl (G.2.1, 55, .inl (upd F22 17 (F22 17))))]) := hD41
          refine lv_if_eq (x := r24) (tgt := 72) hx hb dX7_sentBy_58 (by decide) (fun (c33 : r24 = 0) => absurd c33 c25) (fun (c33 : ¬ (r24 = 0)) => ?_)
          refine lv_aload_n hx hb dX7_sentBy_61 rfl (lv_at hl21 1 rfl) ?_
          refine va_get (ci := 7) (v := .ref q5) (C := RX7) (T := TX7) (N := 22) hx hb ht inX7 hown hK.1 hP42 0 rfl rfl 8 (by decide) (ht _ q_674) (fun _ h9 => h9) rfl dX7_sentBy_62 ?_
          refine lv_iload_n hx hb dX7_sentBy_65 rfl (lv_at hl21 0 rfl) ?_
          refine lv_iconst (v := 3) hx hb dX7_sentBy_66 (by decide) ?_
          refine lv_iadd hx hb dX7_sentBy_67 ?_
          refine k_top (y := 20) (by decide +kernel) ?_
          refine k_iald (v := (F22 20)) kx hK hP42 2 rfl 20 rfl (by decide) (by decide) rfl dX7_sentBy_68 ?_
          refine lv_goto (tgt := 73) hx hb dX7_sentBy_69 (by decide) ?_
          refine k_iast kx hK hP42 hD43 hS41 2 rfl 20 rfl (by decide) (by decide) dX7_sentBy_73 (fun H44 locs44 hP44 hD44 hS44 => ?_)
          have hP45 : va_P G.1 vwCl ([(h0, .inr (7, cM (upd (upd (upd Z 18 (-9)) 20 0) 21 6) q1 q2 q3 q4 q5 q6 q7 q8 q9 q10 q11 sd)), (q4, .inl (G.2.1, 55, .inl pg)), (q5, .inl (G.2.1, 55, .inl (upd (upd F22 17 (F22 17)) 20 (F22 20))))]) H44 := hP44
          have hD46 : va_D A ([(h0, .inr (7, cM (upd (upd (upd Z 18 (-9)) 20 0) 21 6) q1 q2 q3 q4 q5 q6 q7 q8 q9 q10 q11 sd)), (q4, .inl (G.2.1, 55, .inl pg)), (q5, .inl (G.2.1, 55, .inl (upd (upd F22 17 (F22 17)) 20 (F22 20))))]) := hD44
          refine lv_iinc (v := 4) (lv' := [(2, .int 4), (3, .int 17), (0, .ref h0), (1, .int p0)]) hx hb dX7_sentBy_74 hl21 (k := 3) rfl (by decide +kernel) (by decide) rfl (fun ls47 hl47 => ?_)
          refine lv_goto (tgt := 6) hx hb dX7_sentBy_77 (by decide) ?_
          refine lv_iload_n hx hb dX7_sentBy_6 rfl (lv_at hl47 0 rfl) ?_
          refine lv_iconst (v := 4) hx hb dX7_sentBy_7 (by decide) ?_
          refine lv_icmp_ge (x := 4) (y := 4) (tgt := 80) hx hb dX7_sentBy_8 (by decide) (fun (c34 : 4 ≤ 4) => ?_) (fun (c34 : ¬ (4 ≤ 4)) => absurd (by decide) c34)
          refine lv_aload_n hx hb dX7_sentBy_80 rfl (lv_at hl47 2 rfl) ?_
          refine lv_aload_n hx hb dX7_sentBy_81 rfl (lv_at hl47 2 rfl) ?_
          refine va_get (ci := 7) (v := .ref q5) (C := RX7) (T := TX7) (N := 22) hx hb ht inX7 hown hK.1 hP45 0 rfl rfl 8 (by decide) (ht _ q_674) (fun _ h9 => h9) rfl dX7_sentBy_82 ?_
          refine lv_bipush (v := 60) hx hb dX7_sentBy_85 (by decide) ?_
          refine k_callv (kRunV (As := [.ref q5, .int 60]) (rest := []) kx (c_X7_goFor l G (upd (upd (upd Z 18 (-9)) 20 0) 21 6) sd h0 q1 q2 q3 q4 q5 q6 q7 q8 q9 q10 q11 (upd (upd F22 17 (F22 17)) 20 (F22 20)) q5 60) q_778 q_775 q_36 q_777 q_17 nX7_goFor ⟨Nat.le_of_ble_eq_true rfl, Nat.le_of_ble_eq_true rfl⟩ hK hP45 hD46 (kCtx_places _ _ [0, 2] rfl rfl) 0 7 rfl rfl rfl rfl hl47.1 (Nat.le_of_ble_eq_true rfl) dX7_sentBy_87 ⟨Nat.zero_le _, Nat.zero_le _⟩) hP45 hD46 hS44 hA (kCtx_places _ _ [0, 2] rfl rfl) (fun _ => rfl) (fun u H48 locs48 hw hP48 hD48 hS48 => ?_)
          obtain ⟨F36, F37⟩ := u
          obtain ⟨hF36, hF37⟩ := hw
          have hF36 : s_X7_goFor_Z (upd (upd (upd Z 18 (-9)) 20 0) 21 6) (upd (upd F22 17 (F22 17)) 20 (F22 20)) 60 = F36 := (show F36 = s_X7_goFor_Z (upd (upd (upd Z 18 (-9)) 20 0) 21 6) (upd (upd F22 17 (F22 17)) 20 (F22 20)) 60 from hF36).symm
          have hF37 : s_X7_goFor_f (upd (upd (upd Z 18 (-9)) 20 0) 21 6) (upd (upd F22 17 (F22 17)) 20 (F22 20)) 60 = F37 := (show F37 = s_X7_goFor_f (upd (upd (upd Z 18 (-9)) 20 0) 21 6) (upd (upd F22 17 (F22 17)) 20 (F22 20)) 60 from hF37).symm
          have hP49 : va_P G.1 vwCl ([(h0, .inr (7, cM F36 q1 q2 q3 q4 q5 q6 q7 q8 q9 q10 q11 sd)), (q4, .inl (G.2.1, 55, .inl pg)), (q5, .inl (G.2.1, 55, .inl F37))]) H48 := hP48
          have hD50 : va_D A ([(h0, .inr (7, cM F36 q1 q2 q3 q4 q5 q6 q7 q8 q9 q10 q11 sd)), (q4, .inl (G.2.1, 55, .inl pg)), (q5, .inl (G.2.1, 55, .inl F37))]) := hD48
          refine lv_aload_n hx hb dX7_sentBy_90 rfl (lv_at hl47 2 rfl) ?_
          refine va_get (ci := 7) (v := .ref q5) (C := RX7) (T := TX7) (N := 22) hx hb ht inX7 hown hK.1 hP49 0 rfl rfl 8 (by decide) (ht _ q_674) (fun _ h9 => h9) rfl dX7_sentBy_91 ?_
          refine lv_bipush (v := 53) hx hb dX7_sentBy_94 (by decide) ?_
          refine k_iald (v := (F37 53)) kx hK hP49 2 rfl 53 rfl (by decide) (by decide) rfl dX7_sentBy_96 ?_
          have er : r_X7_sentBy Z pg tr p0 = F37 53 := by rw [r_X7_sentBy]; (try rw [hF9]); (try rw [hr11]); (try rw [hF22]); (try rw [hr24]); (try rw [hF36]); (try rw [hF37]); rw [if_pos c12, if_neg c25]
          have e0 : s_X7_sentBy_Z Z pg tr p0 = F36 := by rw [s_X7_sentBy_Z]; (try rw [hF9]); (try rw [hr11]); (try rw [hF22]); (try rw [hr24]); (try rw [hF36]); (try rw [hF37]); rw [if_pos c12, if_neg c25]
          have e1 : s_X7_sentBy_tr Z pg tr p0 = F37 := by rw [s_X7_sentBy_tr]; (try rw [hF9]); (try rw [hr11]); (try rw [hF22]); (try rw [hr24]); (try rw [hF36]); (try rw [hF37]); rw [if_pos c12, if_neg c25]
          exact k_iret kx hK hP49 hD50 hS48 (u := (F36, F37)) rfl ⟨er.symm, e0.symm, e1.symm⟩ dX7_sentBy_97
      refine lv_iload_n hx hb dX7_sentBy_6 rfl (lv_at hl19 0 rfl) ?_
      refine lv_iconst (v := 4) hx hb dX7_sentBy_7 (by decide) ?_
      refine lv_icmp_ge (x := 2) (y := 4) (tgt := 80) hx hb dX7_sentBy_8 (by decide) (fun (c15 : 4 ≤ 2) => absurd c15 (by decide)) (fun (c15 : ¬ (4 ≤ 2)) => ?_)
      refine lv_bipush (v := 16) hx hb dX7_sentBy_11 (by decide) ?_
      refine lv_iload_n hx hb dX7_sentBy_13 rfl (lv_at hl19 0 rfl) ?_
      refine lv_iconst (v := 2) hx hb dX7_sentBy_14 (by decide) ?_
      refine lv_idiv hx hb dX7_sentBy_15 (by decide) ?_
      refine k_top (y := 1) (by decide +kernel) ?_
      refine lv_imul hx hb dX7_sentBy_16 ?_
      refine k_top (y := 16) (by decide +kernel) ?_
      refine lv_iload_n hx hb dX7_sentBy_17 rfl (lv_at hl19 0 rfl) ?_
      refine lv_iconst (v := 2) hx hb dX7_sentBy_18 (by decide) ?_
      refine lv_irem hx hb dX7_sentBy_19 (by decide) ?_
      refine k_top (y := 0) (by decide +kernel) ?_
      refine lv_iadd hx hb dX7_sentBy_20 ?_
      refine k_top (y := 16) (by decide +kernel) ?_
      refine lv_istore_n (lv' := [(3, .int 16), (2, .int 2), (0, .ref h0), (1, .int p0)]) hx hb dX7_sentBy_21 rfl hl19 (by decide) rfl (fun ls51 hl51 => ?_)
      refine lv_aload_n hx hb dX7_sentBy_22 rfl (lv_at hl51 2 rfl) ?_
      refine va_get (ci := 7) (v := .ref q5) (C := RX7) (T := TX7) (N := 22) hx hb ht inX7 hown hK.1 hP17 0 rfl rfl 8 (by decide) (ht _ q_674) (fun _ h9 => h9) rfl dX7_sentBy_23 ?_
      refine lv_iload_n hx hb dX7_sentBy_26 rfl (lv_at hl51 0 rfl) ?_
      refine lv_iload_n hx hb dX7_sentBy_27 rfl (lv_at hl51 3 rfl) ?_
      refine lv_iload_n hx hb dX7_sentBy_28 rfl (lv_at hl51 1 rfl) ?_
      refine k_calli (kRunS (As := [.int p0, .int 2]) (rest := [.int 16, .ref q5]) kx (c_X7_has l G p0 2) q_814 q_812 q_36 q_813 nX7_has ⟨Nat.le_of_ble_eq_true rfl, Nat.le_of_ble_eq_true rfl⟩ hK hP17 hD18 (kCtx_nil _) rfl hl51.1 (Nat.le_of_ble_eq_true rfl) dX7_sentBy_29 ⟨Nat.zero_le _, Nat.zero_le _⟩) hP17 hD18 hS16 hA (kCtx_nil _) (fun _ => rfl) (fun r16 _ H52 locs52 hw hP52 hD52 hS52 => ?_)
      have hr16 : r_X7_has p0 2 = r16 := (show r16 = r_X7_has p0 2 from hw).symm
      have hP53 : va_P G.1 vwCl ([(h0, .inr (7, cM (upd (upd (upd Z 18 (-9)) 20 0) 21 6) q1 q2 q3 q4 q5 q6 q7 q8 q9 q10 q11 sd)), (q4, .inl (G.2.1, 55, .inl pg)), (q5, .inl (G.2.1, 55, .inl (upd (upd F9 1 1) 4 1)))]) H52 := hP52
      have hD54 : va_D A ([(h0, .inr (7, cM (upd (upd (upd Z 18 (-9)) 20 0) 21 6) q1 q2 q3 q4 q5 q6 q7 q8 q9 q10 q11 sd)), (q4, .inl (G.2.1, 55, .inl pg)), (q5, .inl (G.2.1, 55, .inl (upd (upd F9 1 1) 4 1)))]) := hD52
      refine lv_if_eq (x := r16) (tgt := 44) hx hb dX7_sentBy_32 (by decide) (fun (c17 : r16 = 0) => ?_) (fun (c17 : ¬ (r16 = 0)) => ?_)
      · skip
        refine lv_iconst (v := 1) hx hb dX7_sentBy_44 (by decide) ?_
        refine k_iast kx hK hP53 hD54 hS52 2 rfl 16 rfl (by decide) (by decide) dX7_sentBy_45 (fun H55 locs55 hP55 hD55 hS55 => ?_)
        have hP56 : va_P G.1 vwCl ([(h0, .inr (7, cM (upd (upd (upd Z 18 (-9)) 20 0) 21 6) q1 q2 q3 q4 q5 q6 q7 q8 q9 q10 q11 sd)), (q4, .inl (G.2.1, 55, .inl pg)), (q5, .inl (G.2.1, 55, .inl (upd (upd (upd F9 1 1) 4 1) 16 1)))]) H55 := hP55
        have hD57 : va_D A ([(h0, .inr (7, cM (upd (upd (upd Z 18 (-9)) 20 0) 21 6) q1 q2 q3 q4 q5 q6 q7 q8 q9 q10 q11 sd)), (q4, .inl (G.2.1, 55, .inl pg)), (q5, .inl (G.2.1, 55, .inl (upd (upd (upd F9 1 1) 4 1) 16 1)))]) := hD55
        refine lv_aload_n hx hb dX7_sentBy_46 rfl (lv_at hl51 2 rfl) ?_
        refine va_get (ci := 7) (v := .ref q5) (C := RX7) (T := TX7) (N := 22) hx hb ht inX7 hown hK.1 hP56 0 rfl rfl 8 (by decide) (ht _ q_674) (fun _ h9 => h9) rfl dX7_sentBy_47 ?_
        refine lv_iload_n hx hb dX7_sentBy_50 rfl (lv_at hl51 0 rfl) ?_
        refine lv_iconst (v := 3) hx hb dX7_sentBy_51 (by decide) ?_
        refine lv_iadd hx hb dX7_sentBy_52 ?_
        refine k_top (y := 19) (by decide +kernel) ?_
        refine lv_iload_n hx hb dX7_sentBy_53 rfl (lv_at hl51 3 rfl) ?_
        refine lv_iload_n hx hb dX7_sentBy_54 rfl (lv_at hl51 1 rfl) ?_
        refine k_calli (kRunS (As := [.int p0, .int 2]) (rest := [.int 19, .ref q5]) kx (c_X7_has l G p0 2) q_814 q_812 q_36 q_813 nX7_has ⟨Nat.le_of_ble_eq_true rfl, Nat.le_of_ble_eq_true rfl⟩ hK hP56 hD57 (kCtx_nil _) rfl hl51.1 (Nat.le_of_ble_eq_true rfl) dX7_sentBy_55 ⟨Nat.zero_le _, Nat.zero_le _⟩) hP56 hD57 hS55 hA (kCtx_nil _) (fun _ => rfl) (fun r18 _ H58 locs58 hw hP58 hD58 hS58 => ?_)
        have hr18 : r_X7_has p0 2 = r18 := (show r18 = r_X7_has p0 2 from hw).symm
        have heq : r16 = r18 := hr16.symm.trans hr18
        subst heq
        have hP59 : va_P G.1 vwCl ([(h0, .inr (7, cM (upd (upd (upd Z 18 (-9)) 20 0) 21 6) q1 q2 q3 q4 q5 q6 q7 q8 q9 q10 q11 sd)), (q4, .inl (G.2.1, 55, .inl pg)), (q5, .inl (G.2.1, 55, .inl (upd (upd (upd F9 1 1) 4 1) 16 1)))]) H58 := hP58
        have hD60 : va_D A ([(h0, .inr (7, cM (upd (upd (upd Z 18 (-9)) 20 0) 21 6) q1 q2 q3 q4 q5 q6 q7 q8 q9 q10 q11 sd)), (q4, .inl (G.2.1, 55, .inl pg)), (q5, .inl (G.2.1, 55, .inl (upd (upd (upd F9 1 1) 4 1) 16 1)))]) := hD58
        refine lv_if_eq (x := r16) (tgt := 72) hx hb dX7_sentBy_58 (by decide) (fun (c19 : r16 = 0) => ?_) (fun (c19 : ¬ (r16 = 0)) => absurd c17 c19)
        refine lv_iconst (v := 1) hx hb dX7_sentBy_72 (by decide) ?_
        refine k_iast kx hK hP59 hD60 hS58 2 rfl 19 rfl (by decide) (by decide) dX7_sentBy_73 (fun H61 locs61 hP61 hD61 hS61 => ?_)
        have hP62 : va_P G.1 vwCl ([(h0, .inr (7, cM (upd (upd (upd Z 18 (-9)) 20 0) 21 6) q1 q2 q3 q4 q5 q6 q7 q8 q9 q10 q11 sd)), (q4, .inl (G.2.1, 55, .inl pg)), (q5, .inl (G.2.1, 55, .inl (upd (upd (upd (upd F9 1 1) 4 1) 16 1) 19 1)))]) H61 := hP61
        have hD63 : va_D A ([(h0, .inr (7, cM (upd (upd (upd Z 18 (-9)) 20 0) 21 6) q1 q2 q3 q4 q5 q6 q7 q8 q9 q10 q11 sd)), (q4, .inl (G.2.1, 55, .inl pg)), (q5, .inl (G.2.1, 55, .inl (upd (upd (upd (upd F9 1 1) 4 1) 16 1) 19 1)))]) := hD61
        refine lv_iinc (v := 3) (lv' := [(2, .int 3), (3, .int 16), (0, .ref h0), (1, .int p0)]) hx hb dX7_sentBy_74 hl51 (k := 1) rfl (by decide +kernel) (by decide) rfl (fun ls64 hl64 => ?_)
        refine lv_goto (tgt := 6) hx hb dX7_sentBy_77 (by decide) ?_
        have e0 : t_X7_sentBy_2_tr p0 F9 = upd (upd (upd (upd F9 1 1) 4 1) 16 1) 19 1 := by rw [t_X7_sentBy_2_tr]; (try rw [hr16]); rw [if_pos c17]
        exact cut2 (upd (upd (upd (upd F9 1 1) 4 1) 16 1) 19 1) _ _ _ e0 hP62 hD63 hS61 (lv_sub hl64 [2, 3, 0, 1] rfl)
      · skip
        refine lv_aload_n hx hb dX7_sentBy_35 rfl (lv_at hl51 2 rfl) ?_
        refine va_get (ci := 7) (v := .ref q5) (C := RX7) (T := TX7) (N := 22) hx hb ht inX7 hown hK.1 hP53 0 rfl rfl 8 (by decide) (ht _ q_674) (fun _ h9 => h9) rfl dX7_sentBy_36 ?_
        refine lv_iload_n hx hb dX7_sentBy_39 rfl (lv_at hl51 0 rfl) ?_
        refine k_iald (v := (F9 16)) kx hK hP53 2 rfl 16 rfl (by decide) (by decide) rfl dX7_sentBy_40 ?_
        refine lv_goto (tgt := 45) hx hb dX7_sentBy_41 (by decide) ?_
        refine k_iast kx hK hP53 hD54 hS52 2 rfl 16 rfl (by decide) (by decide) dX7_sentBy_45 (fun H65 locs65 hP65 hD65 hS65 => ?_)
        have hP66 : va_P G.1 vwCl ([(h0, .inr (7, cM (upd (upd (upd Z 18 (-9)) 20 0) 21 6) q1 q2 q3 q4 q5 q6 q7 q8 q9 q10 q11 sd)), (q4, .inl (G.2.1, 55, .inl pg)), (q5, .inl (G.2.1, 55, .inl (upd (upd (upd F9 1 1) 4 1) 16 (F9 16))))]) H65 := hP65
        have hD67 : va_D A ([(h0, .inr (7, cM (upd (upd (upd Z 18 (-9)) 20 0) 21 6) q1 q2 q3 q4 q5 q6 q7 q8 q9 q10 q11 sd)), (q4, .inl (G.2.1, 55, .inl pg)), (q5, .inl (G.2.1, 55, .inl (upd (upd (upd F9 1 1) 4 1) 16 (F9 16))))]) := hD65
        refine lv_aload_n hx hb dX7_sentBy_46 rfl (lv_at hl51 2 rfl) ?_
        refine va_get (ci := 7) (v := .ref q5) (C := RX7) (T := TX7) (N := 22) hx hb ht inX7 hown hK.1 hP66 0 rfl rfl 8 (by decide) (ht _ q_674) (fun _ h9 => h9) rfl dX7_sentBy_47 ?_
        refine lv_iload_n hx hb dX7_sentBy_50 rfl (lv_at hl51 0 rfl) ?_
        refine lv_iconst (v := 3) hx hb dX7_sentBy_51 (by decide) ?_
        refine lv_iadd hx hb dX7_sentBy_52 ?_
        refine k_top (y := 19) (by decide +kernel) ?_
        refine lv_iload_n hx hb dX7_sentBy_53 rfl (lv_at hl51 3 rfl) ?_
        refine lv_iload_n hx hb dX7_sentBy_54 rfl (lv_at hl51 1 rfl) ?_
        refine k_calli (kRunS (As := [.int p0, .int 2]) (rest := [.int 19, .ref q5]) kx (c_X7_has l G p0 2) q_814 q_812 q_36 q_813 nX7_has ⟨Nat.le_of_ble_eq_true rfl, Nat.le_of_ble_eq_true rfl⟩ hK hP66 hD67 (kCtx_nil _) rfl hl51.1 (Nat.le_of_ble_eq_true rfl) dX7_sentBy_55 ⟨Nat.zero_le _, Nat.zero_le _⟩) hP66 hD67 hS65 hA (kCtx_nil _) (fun _ => rfl) (fun r20 _ H68 locs68 hw hP68 hD68 hS68 => ?_)
        have hr20 : r_X7_has p0 2 = r20 := (show r20 = r_X7_has p0 2 from hw).symm
        have heq : r16 = r20 := hr16.symm.trans hr20
        subst heq
        have hP69 : va_P G.1 vwCl ([(h0, .inr (7, cM (upd (upd (upd Z 18 (-9)) 20 0) 21 6) q1 q2 q3 q4 q5 q6 q7 q8 q9 q10 q11 sd)), (q4, .inl (G.2.1, 55, .inl pg)), (q5, .inl (G.2.1, 55, .inl (upd (upd (upd F9 1 1) 4 1) 16 (F9 16))))]) H68 := hP68
        have hD70 : va_D A ([(h0, .inr (7, cM (upd (upd (upd Z 18 (-9)) 20 0) 21 6) q1 q2 q3 q4 q5 q6 q7 q8 q9 q10 q11 sd)), (q4, .inl (G.2.1, 55, .inl pg)), (q5, .inl (G.2.1, 55, .inl (upd (upd (upd F9 1 1) 4 1) 16 (F9 16))))]) := hD68
        refine lv_if_eq (x := r16) (tgt := 72) hx hb dX7_sentBy_58 (by decide) (fun (c21 : r16 = 0) => absurd c21 c17) (fun (c21 : ¬ (r16 = 0)) => ?_)
        refine lv_aload_n hx hb dX7_sentBy_61 rfl (lv_at hl51 2 rfl) ?_
        refine va_get (ci := 7) (v := .ref q5) (C := RX7) (T := TX7) (N := 22) hx hb ht inX7 hown hK.1 hP69 0 rfl rfl 8 (by decide) (ht _ q_674) (fun _ h9 => h9) rfl dX7_sentBy_62 ?_
        refine lv_iload_n hx hb dX7_sentBy_65 rfl (lv_at hl51 0 rfl) ?_
        refine lv_iconst (v := 3) hx hb dX7_sentBy_66 (by decide) ?_
        refine lv_iadd hx hb dX7_sentBy_67 ?_
        refine k_top (y := 19) (by decide +kernel) ?_
        refine k_iald (v := (F9 19)) kx hK hP69 2 rfl 19 rfl (by decide) (by decide) rfl dX7_sentBy_68 ?_
        refine lv_goto (tgt := 73) hx hb dX7_sentBy_69 (by decide) ?_
        refine k_iast kx hK hP69 hD70 hS68 2 rfl 19 rfl (by decide) (by decide) dX7_sentBy_73 (fun H71 locs71 hP71 hD71 hS71 => ?_)
        have hP72 : va_P G.1 vwCl ([(h0, .inr (7, cM (upd (upd (upd Z 18 (-9)) 20 0) 21 6) q1 q2 q3 q4 q5 q6 q7 q8 q9 q10 q11 sd)), (q4, .inl (G.2.1, 55, .inl pg)), (q5, .inl (G.2.1, 55, .inl (upd (upd (upd (upd F9 1 1) 4 1) 16 (F9 16)) 19 (F9 19))))]) H71 := hP71
        have hD73 : va_D A ([(h0, .inr (7, cM (upd (upd (upd Z 18 (-9)) 20 0) 21 6) q1 q2 q3 q4 q5 q6 q7 q8 q9 q10 q11 sd)), (q4, .inl (G.2.1, 55, .inl pg)), (q5, .inl (G.2.1, 55, .inl (upd (upd (upd (upd F9 1 1) 4 1) 16 (F9 16)) 19 (F9 19))))]) := hD71
        refine lv_iinc (v := 3) (lv' := [(2, .int 3), (3, .int 16), (0, .ref h0), (1, .int p0)]) hx hb dX7_sentBy_74 hl51 (k := 1) rfl (by decide +kernel) (by decide) rfl (fun ls74 hl74 => ?_)
        refine lv_goto (tgt := 6) hx hb dX7_sentBy_77 (by decide) ?_
        have e0 : t_X7_sentBy_2_tr p0 F9 = upd (upd (upd (upd F9 1 1) 4 1) 16 (F9 16)) 19 (F9 19) := by rw [t_X7_sentBy_2_tr]; (try rw [hr16]); rw [if_neg c17]
        exact cut2 (upd (upd (upd (upd F9 1 1) 4 1) 16 (F9 16)) 19 (F9 19)) _ _ _ e0 hP72 hD73 hS71 (lv_sub hl74 [2, 3, 0, 1] rfl)
    · skip
      refine lv_aload_n hx hb dX7_sentBy_35 rfl (lv_at hl6 1 rfl) ?_
      refine va_get (ci := 7) (v := .ref q5) (C := RX7) (T := TX7) (N := 22) hx hb ht inX7 hown hK.1 hP8 0 rfl rfl 8 (by decide) (ht _ q_674) (fun _ h9 => h9) rfl dX7_sentBy_36 ?_
      refine lv_iload_n hx hb dX7_sentBy_39 rfl (lv_at hl6 0 rfl) ?_
      refine k_iald (v := (F9 1)) kx hK hP8 2 rfl 1 rfl (by decide) (by decide) rfl dX7_sentBy_40 ?_
      refine lv_goto (tgt := 45) hx hb dX7_sentBy_41 (by decide) ?_
      refine k_iast kx hK hP8 hD9 hS7 2 rfl 1 rfl (by decide) (by decide) dX7_sentBy_45 (fun H75 locs75 hP75 hD75 hS75 => ?_)
      have hP76 : va_P G.1 vwCl ([(h0, .inr (7, cM (upd (upd (upd Z 18 (-9)) 20 0) 21 6) q1 q2 q3 q4 q5 q6 q7 q8 q9 q10 q11 sd)), (q4, .inl (G.2.1, 55, .inl pg)), (q5, .inl (G.2.1, 55, .inl (upd F9 1 (F9 1))))]) H75 := hP75
      have hD77 : va_D A ([(h0, .inr (7, cM (upd (upd (upd Z 18 (-9)) 20 0) 21 6) q1 q2 q3 q4 q5 q6 q7 q8 q9 q10 q11 sd)), (q4, .inl (G.2.1, 55, .inl pg)), (q5, .inl (G.2.1, 55, .inl (upd F9 1 (F9 1))))]) := hD75
      refine lv_aload_n hx hb dX7_sentBy_46 rfl (lv_at hl6 1 rfl) ?_
      refine va_get (ci := 7) (v := .ref q5) (C := RX7) (T := TX7) (N := 22) hx hb ht inX7 hown hK.1 hP76 0 rfl rfl 8 (by decide) (ht _ q_674) (fun _ h9 => h9) rfl dX7_sentBy_47 ?_
      refine lv_iload_n hx hb dX7_sentBy_50 rfl (lv_at hl6 0 rfl) ?_
      refine lv_iconst (v := 3) hx hb dX7_sentBy_51 (by decide) ?_
      refine lv_iadd hx hb dX7_sentBy_52 ?_
      refine k_top (y := 4) (by decide +kernel) ?_
      refine lv_iload_n hx hb dX7_sentBy_53 rfl (lv_at hl6 2 rfl) ?_
      refine lv_iload_n hx hb dX7_sentBy_54 rfl (lv_at hl6 3 rfl) ?_
      refine k_calli (kRunS (As := [.int p0, .int 1]) (rest := [.int 4, .ref q5]) kx (c_X7_has l G p0 1) q_814 q_812 q_36 q_813 nX7_has ⟨Nat.le_of_ble_eq_true rfl, Nat.le_of_ble_eq_true rfl⟩ hK hP76 hD77 (kCtx_nil _) rfl hl6.1 (Nat.le_of_ble_eq_true rfl) dX7_sentBy_55 ⟨Nat.zero_le _, Nat.zero_le _⟩) hP76 hD77 hS75 hA (kCtx_nil _) (fun _ => rfl) (fun r38 _ H78 locs78 hw hP78 hD78 hS78 => ?_)
      have hr38 : r_X7_has p0 1 = r38 := (show r38 = r_X7_has p0 1 from hw).symm
      have heq : r11 = r38 := hr11.symm.trans hr38
      subst heq
      have hP79 : va_P G.1 vwCl ([(h0, .inr (7, cM (upd (upd (upd Z 18 (-9)) 20 0) 21 6) q1 q2 q3 q4 q5 q6 q7 q8 q9 q10 q11 sd)), (q4, .inl (G.2.1, 55, .inl pg)), (q5, .inl (G.2.1, 55, .inl (upd F9 1 (F9 1))))]) H78 := hP78
      have hD80 : va_D A ([(h0, .inr (7, cM (upd (upd (upd Z 18 (-9)) 20 0) 21 6) q1 q2 q3 q4 q5 q6 q7 q8 q9 q10 q11 sd)), (q4, .inl (G.2.1, 55, .inl pg)), (q5, .inl (G.2.1, 55, .inl (upd F9 1 (F9 1))))]) := hD78
      refine lv_if_eq (x := r11) (tgt := 72) hx hb dX7_sentBy_58 (by decide) (fun (c39 : r11 = 0) => absurd c39 c12) (fun (c39 : ¬ (r11 = 0)) => ?_)
      refine lv_aload_n hx hb dX7_sentBy_61 rfl (lv_at hl6 1 rfl) ?_
      refine va_get (ci := 7) (v := .ref q5) (C := RX7) (T := TX7) (N := 22) hx hb ht inX7 hown hK.1 hP79 0 rfl rfl 8 (by decide) (ht _ q_674) (fun _ h9 => h9) rfl dX7_sentBy_62 ?_
      refine lv_iload_n hx hb dX7_sentBy_65 rfl (lv_at hl6 0 rfl) ?_
      refine lv_iconst (v := 3) hx hb dX7_sentBy_66 (by decide) ?_
      refine lv_iadd hx hb dX7_sentBy_67 ?_
      refine k_top (y := 4) (by decide +kernel) ?_
      refine k_iald (v := (F9 4)) kx hK hP79 2 rfl 4 rfl (by decide) (by decide) rfl dX7_sentBy_68 ?_
      refine lv_goto (tgt := 73) hx hb dX7_sentBy_69 (by decide) ?_
      refine k_iast kx hK hP79 hD80 hS78 2 rfl 4 rfl (by decide) (by decide) dX7_sentBy_73 (fun H81 locs81 hP81 hD81 hS81 => ?_)
      have hP82 : va_P G.1 vwCl ([(h0, .inr (7, cM (upd (upd (upd Z 18 (-9)) 20 0) 21 6) q1 q2 q3 q4 q5 q6 q7 q8 q9 q10 q11 sd)), (q4, .inl (G.2.1, 55, .inl pg)), (q5, .inl (G.2.1, 55, .inl (upd (upd F9 1 (F9 1)) 4 (F9 4))))]) H81 := hP81
      have hD83 : va_D A ([(h0, .inr (7, cM (upd (upd (upd Z 18 (-9)) 20 0) 21 6) q1 q2 q3 q4 q5 q6 q7 q8 q9 q10 q11 sd)), (q4, .inl (G.2.1, 55, .inl pg)), (q5, .inl (G.2.1, 55, .inl (upd (upd F9 1 (F9 1)) 4 (F9 4))))]) := hD81
      refine lv_iinc (v := 2) (lv' := [(2, .int 2), (3, .int 1), (0, .ref h0), (1, .int p0)]) hx hb dX7_sentBy_74 hl6 (k := 3) rfl (by decide +kernel) (by decide) rfl (fun ls84 hl84 => ?_)
      refine lv_goto (tgt := 6) hx hb dX7_sentBy_77 (by decide) ?_
      have cut3 : ∀ (F47 : Nat → Int32) (H : Heap) (locs : List Loc) (ls : Array Slot), (hF47 : t_X7_sentBy_3_tr p0 F9 = F47) → va_P G.1 vwCl ([(h0, .inr (7, cM (upd (upd (upd Z 18 (-9)) 20 0) 21 6) q1 q2 q3 q4 q5 q6 q7 q8 q9 q10 q11 sd)), (q4, .inl (G.2.1, 55, .inl pg)), (q5, .inl (G.2.1, 55, .inl F47))]) H → va_D A ([(h0, .inr (7, cM (upd (upd (upd Z 18 (-9)) 20 0) 21 6) q1 q2 q3 q4 q5 q6 q7 q8 q9 q10 q11 sd)), (q4, .inl (G.2.1, 55, .inl pg)), (q5, .inl (G.2.1, 55, .inl F47))]) → va_S A s.heap H locs → lv_has ls 4 [(0, .ref h0), (1, .int p0), (2, .int 3), (3, .int 16)] → W p l e (kr 6) s m args below meth c H locs 0 0 (MQ below (qI G (fun (r : Int32) (u : ((Nat → Int32) × (Nat → Int32))) => r = r_X7_sentBy Z pg tr p0 ∧ u.1 = s_X7_sentBy_Z Z pg tr p0 ∧ u.2 = s_X7_sentBy_tr Z pg tr p0) (fun u => [(h0, .inr (7, cM u.1 q1 q2 q3 q4 q5 q6 q7 q8 q9 q10 q11 sd)), (q4, .inl (G.2.1, 55, .inl pg)), (q5, .inl (G.2.1, 55, .inl u.2))]) A) args s 0 0 A) (F0 m 6 ls []) := by
        intro F47 H85 locs85 ls85 hF47 hP85 hD85 hS85 hl85
        refine lv_iload_n hx hb dX7_sentBy_6 rfl (lv_at hl85 2 rfl) ?_
        refine lv_iconst (v := 4) hx hb dX7_sentBy_7 (by decide) ?_
        refine lv_icmp_ge (x := 3) (y := 4) (tgt := 80) hx hb dX7_sentBy_8 (by decide) (fun (c48 : 4 ≤ 3) => absurd c48 (by decide)) (fun (c48 : ¬ (4 ≤ 3)) => ?_)
        refine lv_bipush (v := 16) hx hb dX7_sentBy_11 (by decide) ?_
        refine lv_iload_n hx hb dX7_sentBy_13 rfl (lv_at hl85 2 rfl) ?_
        refine lv_iconst (v := 2) hx hb dX7_sentBy_14 (by decide) ?_
        refine lv_idiv hx hb dX7_sentBy_15 (by decide) ?_
        refine k_top (y := 1) (by decide +kernel) ?_
        refine lv_imul hx hb dX7_sentBy_16 ?_
        refine k_top (y := 16) (by decide +kernel) ?_
        refine lv_iload_n hx hb dX7_sentBy_17 rfl (lv_at hl85 2 rfl) ?_
        refine lv_iconst (v := 2) hx hb dX7_sentBy_18 (by decide) ?_
        refine lv_irem hx hb dX7_sentBy_19 (by decide) ?_
        refine k_top (y := 1) (by decide +kernel) ?_
        refine lv_iadd hx hb dX7_sentBy_20 ?_
        refine k_top (y := 17) (by decide +kernel) ?_
        refine lv_istore_n (lv' := [(3, .int 17), (0, .ref h0), (1, .int p0), (2, .int 3)]) hx hb dX7_sentBy_21 rfl hl85 (by decide) rfl (fun ls86 hl86 => ?_)
        refine lv_aload_n hx hb dX7_sentBy_22 rfl (lv_at hl86 1 rfl) ?_
        refine va_get (ci := 7) (v := .ref q5) (C := RX7) (T := TX7) (N := 22) hx hb ht inX7 hown hK.1 hP85 0 rfl rfl 8 (by decide) (ht _ q_674) (fun _ h9 => h9) rfl dX7_sentBy_23 ?_
        refine lv_iload_n hx hb dX7_sentBy_26 rfl (lv_at hl86 0 rfl) ?_
        refine lv_iload_n hx hb dX7_sentBy_27 rfl (lv_at hl86 2 rfl) ?_
        refine lv_iload_n hx hb dX7_sentBy_28 rfl (lv_at hl86 3 rfl) ?_
        refine k_calli (kRunS (As := [.int p0, .int 3]) (rest := [.int 17, .ref q5]) kx (c_X7_has l G p0 3) q_814 q_812 q_36 q_813 nX7_has ⟨Nat.le_of_ble_eq_true rfl, Nat.le_of_ble_eq_true rfl⟩ hK hP85 hD85 (kCtx_nil _) rfl hl86.1 (Nat.le_of_ble_eq_true rfl) dX7_sentBy_29 ⟨Nat.zero_le _, Nat.zero_le _⟩) hP85 hD85 hS85 hA (kCtx_nil _) (fun _ => rfl) (fun r49 _ H87 locs87 hw hP87 hD87 hS87 => ?_)
        have hr49 : r_X7_has p0 3 = r49 := (show r49 = r_X7_has p0 3 from hw).symm
        have hP88 : va_P G.1 vwCl ([(h0, .inr (7, cM (upd (upd (upd Z 18 (-9)) 20 0) 21 6) q1 q2 q3 q4 q5 q6 q7 q8 q9 q10 q11 sd)), (q4, .inl (G.2.1, 55, .inl pg)), (q5, .inl (G.2.1, 55, .inl F47))]) H87 := hP87
        have hD89 : va_D A ([(h0, .inr (7, cM (upd (upd (upd Z 18 (-9)) 20 0) 21 6) q1 q2 q3 q4 q5 q6 q7 q8 q9 q10 q11 sd)), (q4, .inl (G.2.1, 55, .inl pg)), (q5, .inl (G.2.1, 55, .inl F47))]) := hD87
        refine lv_if_eq (x := r49) (tgt := 44) hx hb dX7_sentBy_32 (by decide) (fun (c50 : r49 = 0) => ?_) (fun (c50 : ¬ (r49 = 0)) => ?_)
        · skip
          refine lv_iconst (v := 1) hx hb dX7_sentBy_44 (by decide) ?_
          refine k_iast kx hK hP88 hD89 hS87 2 rfl 17 rfl (by decide) (by decide) dX7_sentBy_45 (fun H90 locs90 hP90 hD90 hS90 => ?_)
          have hP91 : va_P G.1 vwCl ([(h0, .inr (7, cM (upd (upd (upd Z 18 (-9)) 20 0) 21 6) q1 q2 q3 q4 q5 q6 q7 q8 q9 q10 q11 sd)), (q4, .inl (G.2.1, 55, .inl pg)), (q5, .inl (G.2.1, 55, .inl (upd F47 17 1)))]) H90 := hP90
          have hD92 : va_D A ([(h0, .inr (7, cM (upd (upd (upd Z 18 (-9)) 20 0) 21 6) q1 q2 q3 q4 q5 q6 q7 q8 q9 q10 q11 sd)), (q4, .inl (G.2.1, 55, .inl pg)), (q5, .inl (G.2.1, 55, .inl (upd F47 17 1)))]) := hD90
          refine lv_aload_n hx hb dX7_sentBy_46 rfl (lv_at hl86 1 rfl) ?_
          refine va_get (ci := 7) (v := .ref q5) (C := RX7) (T := TX7) (N := 22) hx hb ht inX7 hown hK.1 hP91 0 rfl rfl 8 (by decide) (ht _ q_674) (fun _ h9 => h9) rfl dX7_sentBy_47 ?_
          refine lv_iload_n hx hb dX7_sentBy_50 rfl (lv_at hl86 0 rfl) ?_
          refine lv_iconst (v := 3) hx hb dX7_sentBy_51 (by decide) ?_
          refine lv_iadd hx hb dX7_sentBy_52 ?_
          refine k_top (y := 20) (by decide +kernel) ?_
          refine lv_iload_n hx hb dX7_sentBy_53 rfl (lv_at hl86 2 rfl) ?_
          refine lv_iload_n hx hb dX7_sentBy_54 rfl (lv_at hl86 3 rfl) ?_
          refine k_calli (kRunS (As := [.int p0, .int 3]) (rest := [.int 20, .ref q5]) kx (c_X7_has l G p0 3) q_814 q_812 q_36 q_813 nX7_has ⟨Nat.le_of_ble_eq_true rfl, Nat.le_of_ble_eq_true rfl⟩ hK hP91 hD92 (kCtx_nil _) rfl hl86.1 (Nat.le_of_ble_eq_true rfl) dX7_sentBy_55 ⟨Nat.zero_le _, Nat.zero_le _⟩) hP91 hD92 hS90 hA (kCtx_nil _) (fun _ => rfl) (fun r51 _ H93 locs93 hw hP93 hD93 hS93 => ?_)
          have hr51 : r_X7_has p0 3 = r51 := (show r51 = r_X7_has p0 3 from hw).symm
          have heq : r49 = r51 := hr49.symm.trans hr51
          subst heq
          have hP94 : va_P G.1 vwCl ([(h0, .inr (7, cM (upd (upd (upd Z 18 (-9)) 20 0) 21 6) q1 q2 q3 q4 q5 q6 q7 q8 q9 q10 q11 sd)), (q4, .inl (G.2.1, 55, .inl pg)), (q5, .inl (G.2.1, 55, .inl (upd F47 17 1)))]) H93 := hP93
          have hD95 : va_D A ([(h0, .inr (7, cM (upd (upd (upd Z 18 (-9)) 20 0) 21 6) q1 q2 q3 q4 q5 q6 q7 q8 q9 q10 q11 sd)), (q4, .inl (G.2.1, 55, .inl pg)), (q5, .inl (G.2.1, 55, .inl (upd F47 17 1)))]) := hD93
          refine lv_if_eq (x := r49) (tgt := 72) hx hb dX7_sentBy_58 (by decide) (fun (c52 : r49 = 0) => ?_) (fun (c52 : ¬ (r49 = 0)) => absurd c50 c52)
          refine lv_iconst (v := 1) hx hb dX7_sentBy_72 (by decide) ?_
          refine k_iast kx hK hP94 hD95 hS93 2 rfl 20 rfl (by decide) (by decide) dX7_sentBy_73 (fun H96 locs96 hP96 hD96 hS96 => ?_)
          have hP97 : va_P G.1 vwCl ([(h0, .inr (7, cM (upd (upd (upd Z 18 (-9)) 20 0) 21 6) q1 q2 q3 q4 q5 q6 q7 q8 q9 q10 q11 sd)), (q4, .inl (G.2.1, 55, .inl pg)), (q5, .inl (G.2.1, 55, .inl (upd (upd F47 17 1) 20 1)))]) H96 := hP96
          have hD98 : va_D A ([(h0, .inr (7, cM (upd (upd (upd Z 18 (-9)) 20 0) 21 6) q1 q2 q3 q4 q5 q6 q7 q8 q9 q10 q11 sd)), (q4, .inl (G.2.1, 55, .inl pg)), (q5, .inl (G.2.1, 55, .inl (upd (upd F47 17 1) 20 1)))]) := hD96
          refine lv_iinc (v := 4) (lv' := [(2, .int 4), (3, .int 17), (0, .ref h0), (1, .int p0)]) hx hb dX7_sentBy_74 hl86 (k := 3) rfl (by decide +kernel) (by decide) rfl (fun ls99 hl99 => ?_)
          refine lv_goto (tgt := 6) hx hb dX7_sentBy_77 (by decide) ?_
          refine lv_iload_n hx hb dX7_sentBy_6 rfl (lv_at hl99 0 rfl) ?_
          refine lv_iconst (v := 4) hx hb dX7_sentBy_7 (by decide) ?_
          refine lv_icmp_ge (x := 4) (y := 4) (tgt := 80) hx hb dX7_sentBy_8 (by decide) (fun (c53 : 4 ≤ 4) => ?_) (fun (c53 : ¬ (4 ≤ 4)) => absurd (by decide) c53)
          refine lv_aload_n hx hb dX7_sentBy_80 rfl (lv_at hl99 2 rfl) ?_
          refine lv_aload_n hx hb dX7_sentBy_81 rfl (lv_at hl99 2 rfl) ?_
          refine va_get (ci := 7) (v := .ref q5) (C := RX7) (T := TX7) (N := 22) hx hb ht inX7 hown hK.1 hP97 0 rfl rfl 8 (by decide) (ht _ q_674) (fun _ h9 => h9) rfl dX7_sentBy_82 ?_
          refine lv_bipush (v := 60) hx hb dX7_sentBy_85 (by decide) ?_
          refine k_callv (kRunV (As := [.ref q5, .int 60]) (rest := []) kx (c_X7_goFor l G (upd (upd (upd Z 18 (-9)) 20 0) 21 6) sd h0 q1 q2 q3 q4 q5 q6 q7 q8 q9 q10 q11 (upd (upd F47 17 1) 20 1) q5 60) q_778 q_775 q_36 q_777 q_17 nX7_goFor ⟨Nat.le_of_ble_eq_true rfl, Nat.le_of_ble_eq_true rfl⟩ hK hP97 hD98 (kCtx_places _ _ [0, 2] rfl rfl) 0 7 rfl rfl rfl rfl hl99.1 (Nat.le_of_ble_eq_true rfl) dX7_sentBy_87 ⟨Nat.zero_le _, Nat.zero_le _⟩) hP97 hD98 hS96 hA (kCtx_places _ _ [0, 2] rfl rfl) (fun _ => rfl) (fun u H100 locs100 hw hP100 hD100 hS100 => ?_)
          obtain ⟨F55, F56⟩ := u
          obtain ⟨hF55, hF56⟩ := hw
          have hF55 : s_X7_goFor_Z (upd (upd (upd Z 18 (-9)) 20 0) 21 6) (upd (upd F47 17 1) 20 1) 60 = F55 := (show F55 = s_X7_goFor_Z (upd (upd (upd Z 18 (-9)) 20 0) 21 6) (upd (upd F47 17 1) 20 1) 60 from hF55).symm
          have hF56 : s_X7_goFor_f (upd (upd (upd Z 18 (-9)) 20 0) 21 6) (upd (upd F47 17 1) 20 1) 60 = F56 := (show F56 = s_X7_goFor_f (upd (upd (upd Z 18 (-9)) 20 0) 21 6) (upd (upd F47 17 1) 20 1) 60 from hF56).symm
          have hP101 : va_P G.1 vwCl ([(h0, .inr (7, cM F55 q1 q2 q3 q4 q5 q6 q7 q8 q9 q10 q11 sd)), (q4, .inl (G.2.1, 55, .inl pg)), (q5, .inl (G.2.1, 55, .inl F56))]) H100 := hP100
          have hD102 : va_D A ([(h0, .inr (7, cM F55 q1 q2 q3 q4 q5 q6 q7 q8 q9 q10 q11 sd)), (q4, .inl (G.2.1, 55, .inl pg)), (q5, .inl (G.2.1, 55, .inl F56))]) := hD100
          refine lv_aload_n hx hb dX7_sentBy_90 rfl (lv_at hl99 2 rfl) ?_
          refine va_get (ci := 7) (v := .ref q5) (C := RX7) (T := TX7) (N := 22) hx hb ht inX7 hown hK.1 hP101 0 rfl rfl 8 (by decide) (ht _ q_674) (fun _ h9 => h9) rfl dX7_sentBy_91 ?_
          refine lv_bipush (v := 53) hx hb dX7_sentBy_94 (by decide) ?_
          refine k_iald (v := (F56 53)) kx hK hP101 2 rfl 53 rfl (by decide) (by decide) rfl dX7_sentBy_96 ?_
          have er : r_X7_sentBy Z pg tr p0 = F56 53 := by rw [r_X7_sentBy]; (try rw [hF9]); (try rw [hr11]); (try rw [hF47]); (try rw [hr49]); (try rw [hF55]); (try rw [hF56]); rw [if_neg c12, if_pos c50]
          have e0 : s_X7_sentBy_Z Z pg tr p0 = F55 := by rw [s_X7_sentBy_Z]; (try rw [hF9]); (try rw [hr11]); (try rw [hF47]); (try rw [hr49]); (try rw [hF55]); (try rw [hF56]); rw [if_neg c12, if_pos c50]
          have e1 : s_X7_sentBy_tr Z pg tr p0 = F56 := by rw [s_X7_sentBy_tr]; (try rw [hF9]); (try rw [hr11]); (try rw [hF47]); (try rw [hr49]); (try rw [hF55]); (try rw [hF56]); rw [if_neg c12, if_pos c50]
          exact k_iret kx hK hP101 hD102 hS100 (u := (F55, F56)) rfl ⟨er.symm, e0.symm, e1.symm⟩ dX7_sentBy_97
        · skip
          refine lv_aload_n hx hb dX7_sentBy_35 rfl (lv_at hl86 1 rfl) ?_
          refine va_get (ci := 7) (v := .ref q5) (C := RX7) (T := TX7) (N := 22) hx hb ht inX7 hown hK.1 hP88 0 rfl rfl 8 (by decide) (ht _ q_674) (fun _ h9 => h9) rfl dX7_sentBy_36 ?_
          refine lv_iload_n hx hb dX7_sentBy_39 rfl (lv_at hl86 0 rfl) ?_
          refine k_iald (v := (F47 17)) kx hK hP88 2 rfl 17 rfl (by decide) (by decide) rfl dX7_sentBy_40 ?_
          refine lv_goto (tgt := 45) hx hb dX7_sentBy_41 (by decide) ?_
          refine k_iast kx hK hP88 hD89 hS87 2 rfl 17 rfl (by decide) (by decide) dX7_sentBy_45 (fun H103 locs103 hP103 hD103 hS103 => ?_)
          have hP104 : va_P G.1 vwCl ([(h0, .inr (7, cM (upd (upd (upd Z 18 (-9)) 20 0) 21 6) q1 q2 q3 q4 q5 q6 q7 q8 q9 q10 q11 sd)), (q4, .inl (G.2.1, 55, .inl pg)), (q5, .inl (G.2.1, 55, .inl (upd F47 17 (F47 17))))]) H103 := hP103
          have hD105 : va_D A ([(h0, .inr (7, cM (upd (upd (upd Z 18 (-9)) 20 0) 21 6) q1 q2 q3 q4 q5 q6 q7 q8 q9 q10 q11 sd)), (q4, .inl (G.2.1, 55, .inl pg)), (q5, .inl (G.2.1, 55, .inl (upd F47 17 (F47 17))))]) := hD103
          refine lv_aload_n hx hb dX7_sentBy_46 rfl (lv_at hl86 1 rfl) ?_
          refine va_get (ci := 7) (v := .ref q5) (C := RX7) (T := TX7) (N := 22) hx hb ht inX7 hown hK.1 hP104 0 rfl rfl 8 (by decide) (ht _ q_674) (fun _ h9 => h9) rfl dX7_sentBy_47 ?_
          refine lv_iload_n hx hb dX7_sentBy_50 rfl (lv_at hl86 0 rfl) ?_
          refine lv_iconst (v := 3) hx hb dX7_sentBy_51 (by decide) ?_
          refine lv_iadd hx hb dX7_sentBy_52 ?_
          refine k_top (y := 20) (by decide +kernel) ?_
          refine lv_iload_n hx hb dX7_sentBy_53 rfl (lv_at hl86 2 rfl) ?_
          refine lv_iload_n hx hb dX7_sentBy_54 rfl (lv_at hl86 3 rfl) ?_
          refine k_calli (kRunS (As := [.int p0, .int 3]) (rest := [.int 20, .ref q5]) kx (c_X7_has l G p0 3) q_814 q_812 q_36 q_813 nX7_has ⟨Nat.le_of_ble_eq_true rfl, Nat.le_of_ble_eq_true rfl⟩ hK hP104 hD105 (kCtx_nil _) rfl hl86.1 (Nat.le_of_ble_eq_true rfl) dX7_sentBy_55 ⟨Nat.zero_le _, Nat.zero_le _⟩) hP104 hD105 hS103 hA (kCtx_nil _) (fun _ => rfl) (fun r57 _ H106 locs106 hw hP106 hD106 hS106 => ?_)
          have hr57 : r_X7_has p0 3 = r57 := (show r57 = r_X7_has p0 3 from hw).symm
          have heq : r49 = r57 := hr49.symm.trans hr57
          subst heq
          have hP107 : va_P G.1 vwCl ([(h0, .inr (7, cM (upd (upd (upd Z 18 (-9)) 20 0) 21 6) q1 q2 q3 q4 q5 q6 q7 q8 q9 q10 q11 sd)), (q4, .inl (G.2.1, 55, .inl pg)), (q5, .inl (G.2.1, 55, .inl (upd F47 17 (F47 17))))]) H106 := hP106
          have hD108 : va_D A ([(h0, .inr (7, cM (upd (upd (upd Z 18 (-9)) 20 0) 21 6) q1 q2 q3 q4 q5 q6 q7 q8 q9 q10 q11 sd)), (q4, .inl (G.2.1, 55, .inl pg)), (q5, .inl (G.2.1, 55, .inl (upd F47 17 (F47 17))))]) := hD106
          refine lv_if_eq (x := r49) (tgt := 72) hx hb dX7_sentBy_58 (by decide) (fun (c58 : r49 = 0) => absurd c58 c50) (fun (c58 : ¬ (r49 = 0)) => ?_)
          refine lv_aload_n hx hb dX7_sentBy_61 rfl (lv_at hl86 1 rfl) ?_
          refine va_get (ci := 7) (v := .ref q5) (C := RX7) (T := TX7) (N := 22) hx hb ht inX7 hown hK.1 hP107 0 rfl rfl 8 (by decide) (ht _ q_674) (fun _ h9 => h9) rfl dX7_sentBy_62 ?_
          refine lv_iload_n hx hb dX7_sentBy_65 rfl (lv_at hl86 0 rfl) ?_
          refine lv_iconst (v := 3) hx hb dX7_sentBy_66 (by decide) ?_
          refine lv_iadd hx hb dX7_sentBy_67 ?_
          refine k_top (y := 20) (by decide +kernel) ?_
          refine k_iald (v := (F47 20)) kx hK hP107 2 rfl 20 rfl (by decide) (by decide) rfl dX7_sentBy_68 ?_
          refine lv_goto (tgt := 73) hx hb dX7_sentBy_69 (by decide) ?_
          refine k_iast kx hK hP107 hD108 hS106 2 rfl 20 rfl (by decide) (by decide) dX7_sentBy_73 (fun H109 locs109 hP109 hD109 hS109 => ?_)
          have hP110 : va_P G.1 vwCl ([(h0, .inr (7, cM (upd (upd (upd Z 18 (-9)) 20 0) 21 6) q1 q2 q3 q4 q5 q6 q7 q8 q9 q10 q11 sd)), (q4, .inl (G.2.1, 55, .inl pg)), (q5, .inl (G.2.1, 55, .inl (upd (upd F47 17 (F47 17)) 20 (F47 20))))]) H109 := hP109
          have hD111 : va_D A ([(h0, .inr (7, cM (upd (upd (upd Z 18 (-9)) 20 0) 21 6) q1 q2 q3 q4 q5 q6 q7 q8 q9 q10 q11 sd)), (q4, .inl (G.2.1, 55, .inl pg)), (q5, .inl (G.2.1, 55, .inl (upd (upd F47 17 (F47 17)) 20 (F47 20))))]) := hD109
          refine lv_iinc (v := 4) (lv' := [(2, .int 4), (3, .int 17), (0, .ref h0), (1, .int p0)]) hx hb dX7_sentBy_74 hl86 (k := 3) rfl (by decide +kernel) (by decide) rfl (fun ls112 hl112 => ?_)
          refine lv_goto (tgt := 6) hx hb dX7_sentBy_77 (by decide) ?_
          refine lv_iload_n hx hb dX7_sentBy_6 rfl (lv_at hl112 0 rfl) ?_
          refine lv_iconst (v := 4) hx hb dX7_sentBy_7 (by decide) ?_
          refine lv_icmp_ge (x := 4) (y := 4) (tgt := 80) hx hb dX7_sentBy_8 (by decide) (fun (c59 : 4 ≤ 4) => ?_) (fun (c59 : ¬ (4 ≤ 4)) => absurd (by decide) c59)
          refine lv_aload_n hx hb dX7_sentBy_80 rfl (lv_at hl112 2 rfl) ?_
          refine lv_aload_n hx hb dX7_sentBy_81 rfl (lv_at hl112 2 rfl) ?_
          refine va_get (ci := 7) (v := .ref q5) (C := RX7) (T := TX7) (N := 22) hx hb ht inX7 hown hK.1 hP110 0 rfl rfl 8 (by decide) (ht _ q_674) (fun _ h9 => h9) rfl dX7_sentBy_82 ?_
          refine lv_bipush (v := 60) hx hb dX7_sentBy_85 (by decide) ?_
          refine k_callv (kRunV (As := [.ref q5, .int 60]) (rest := []) kx (c_X7_goFor l G (upd (upd (upd Z 18 (-9)) 20 0) 21 6) sd h0 q1 q2 q3 q4 q5 q6 q7 q8 q9 q10 q11 (upd (upd F47 17 (F47 17)) 20 (F47 20)) q5 60) q_778 q_775 q_36 q_777 q_17 nX7_goFor ⟨Nat.le_of_ble_eq_true rfl, Nat.le_of_ble_eq_true rfl⟩ hK hP110 hD111 (kCtx_places _ _ [0, 2] rfl rfl) 0 7 rfl rfl rfl rfl hl112.1 (Nat.le_of_ble_eq_true rfl) dX7_sentBy_87 ⟨Nat.zero_le _, Nat.zero_le _⟩) hP110 hD111 hS109 hA (kCtx_places _ _ [0, 2] rfl rfl) (fun _ => rfl) (fun u H113 locs113 hw hP113 hD113 hS113 => ?_)
          obtain ⟨F61, F62⟩ := u
          obtain ⟨hF61, hF62⟩ := hw
          have hF61 : s_X7_goFor_Z (upd (upd (upd Z 18 (-9)) 20 0) 21 6) (upd (upd F47 17 (F47 17)) 20 (F47 20)) 60 = F61 := (show F61 = s_X7_goFor_Z (upd (upd (upd Z 18 (-9)) 20 0) 21 6) (upd (upd F47 17 (F47 17)) 20 (F47 20)) 60 from hF61).symm
          have hF62 : s_X7_goFor_f (upd (upd (upd Z 18 (-9)) 20 0) 21 6) (upd (upd F47 17 (F47 17)) 20 (F47 20)) 60 = F62 := (show F62 = s_X7_goFor_f (upd (upd (upd Z 18 (-9)) 20 0) 21 6) (upd (upd F47 17 (F47 17)) 20 (F47 20)) 60 from hF62).symm
          have hP114 : va_P G.1 vwCl ([(h0, .inr (7, cM F61 q1 q2 q3 q4 q5 q6 q7 q8 q9 q10 q11 sd)), (q4, .inl (G.2.1, 55, .inl pg)), (q5, .inl (G.2.1, 55, .inl F62))]) H113 := hP113
          have hD115 : va_D A ([(h0, .inr (7, cM F61 q1 q2 q3 q4 q5 q6 q7 q8 q9 q10 q11 sd)), (q4, .inl (G.2.1, 55, .inl pg)), (q5, .inl (G.2.1, 55, .inl F62))]) := hD113
          refine lv_aload_n hx hb dX7_sentBy_90 rfl (lv_at hl112 2 rfl) ?_
          refine va_get (ci := 7) (v := .ref q5) (C := RX7) (T := TX7) (N := 22) hx hb ht inX7 hown hK.1 hP114 0 rfl rfl 8 (by decide) (ht _ q_674) (fun _ h9 => h9) rfl dX7_sentBy_91 ?_
          refine lv_bipush (v := 53) hx hb dX7_sentBy_94 (by decide) ?_
          refine k_iald (v := (F62 53)) kx hK hP114 2 rfl 53 rfl (by decide) (by decide) rfl dX7_sentBy_96 ?_
          have er : r_X7_sentBy Z pg tr p0 = F62 53 := by rw [r_X7_sentBy]; (try rw [hF9]); (try rw [hr11]); (try rw [hF47]); (try rw [hr49]); (try rw [hF61]); (try rw [hF62]); rw [if_neg c12, if_neg c50]
          have e0 : s_X7_sentBy_Z Z pg tr p0 = F61 := by rw [s_X7_sentBy_Z]; (try rw [hF9]); (try rw [hr11]); (try rw [hF47]); (try rw [hr49]); (try rw [hF61]); (try rw [hF62]); rw [if_neg c12, if_neg c50]
          have e1 : s_X7_sentBy_tr Z pg tr p0 = F62 := by rw [s_X7_sentBy_tr]; (try rw [hF9]); (try rw [hr11]); (try rw [hF47]); (try rw [hr49]); (try rw [hF61]); (try rw [hF62]); rw [if_neg c12, if_neg c50]
          exact k_iret kx hK hP114 hD115 hS113 (u := (F61, F62)) rfl ⟨er.symm, e0.symm, e1.symm⟩ dX7_sentBy_97
      refine lv_iload_n hx hb dX7_sentBy_6 rfl (lv_at hl84 0 rfl) ?_
      refine lv_iconst (v := 4) hx hb dX7_sentBy_7 (by decide) ?_
      refine lv_icmp_ge (x := 2) (y := 4) (tgt := 80) hx hb dX7_sentBy_8 (by decide) (fun (c40 : 4 ≤ 2) => absurd c40 (by decide)) (fun (c40 : ¬ (4 ≤ 2)) => ?_)
      refine lv_bipush (v := 16) hx hb dX7_sentBy_11 (by decide) ?_
      refine lv_iload_n hx hb dX7_sentBy_13 rfl (lv_at hl84 0 rfl) ?_
      refine lv_iconst (v := 2) hx hb dX7_sentBy_14 (by decide) ?_
      refine lv_idiv hx hb dX7_sentBy_15 (by decide) ?_
      refine k_top (y := 1) (by decide +kernel) ?_
      refine lv_imul hx hb dX7_sentBy_16 ?_
      refine k_top (y := 16) (by decide +kernel) ?_
      refine lv_iload_n hx hb dX7_sentBy_17 rfl (lv_at hl84 0 rfl) ?_
      refine lv_iconst (v := 2) hx hb dX7_sentBy_18 (by decide) ?_
      refine lv_irem hx hb dX7_sentBy_19 (by decide) ?_
      refine k_top (y := 0) (by decide +kernel) ?_
      refine lv_iadd hx hb dX7_sentBy_20 ?_
      refine k_top (y := 16) (by decide +kernel) ?_
      refine lv_istore_n (lv' := [(3, .int 16), (2, .int 2), (0, .ref h0), (1, .int p0)]) hx hb dX7_sentBy_21 rfl hl84 (by decide) rfl (fun ls116 hl116 => ?_)
      refine lv_aload_n hx hb dX7_sentBy_22 rfl (lv_at hl116 2 rfl) ?_
      refine va_get (ci := 7) (v := .ref q5) (C := RX7) (T := TX7) (N := 22) hx hb ht inX7 hown hK.1 hP82 0 rfl rfl 8 (by decide) (ht _ q_674) (fun _ h9 => h9) rfl dX7_sentBy_23 ?_
      refine lv_iload_n hx hb dX7_sentBy_26 rfl (lv_at hl116 0 rfl) ?_
      refine lv_iload_n hx hb dX7_sentBy_27 rfl (lv_at hl116 3 rfl) ?_
      refine lv_iload_n hx hb dX7_sentBy_28 rfl (lv_at hl116 1 rfl) ?_
      refine k_calli (kRunS (As := [.int p0, .int 2]) (rest := [.int 16, .ref q5]) kx (c_X7_has l G p0 2) q_814 q_812 q_36 q_813 nX7_has ⟨Nat.le_of_ble_eq_true rfl, Nat.le_of_ble_eq_true rfl⟩ hK hP82 hD83 (kCtx_nil _) rfl hl116.1 (Nat.le_of_ble_eq_true rfl) dX7_sentBy_29 ⟨Nat.zero_le _, Nat.zero_le _⟩) hP82 hD83 hS81 hA (kCtx_nil _) (fun _ => rfl) (fun r41 _ H117 locs117 hw hP117 hD117 hS117 => ?_)
      have hr41 : r_X7_has p0 2 = r41 := (show r41 = r_X7_has p0 2 from hw).symm
      have hP118 : va_P G.1 vwCl ([(h0, .inr (7, cM (upd (upd (upd Z 18 (-9)) 20 0) 21 6) q1 q2 q3 q4 q5 q6 q7 q8 q9 q10 q11 sd)), (q4, .inl (G.2.1, 55, .inl pg)), (q5, .inl (G.2.1, 55, .inl (upd (upd F9 1 (F9 1)) 4 (F9 4))))]) H117 := hP117
      have hD119 : va_D A ([(h0, .inr (7, cM (upd (upd (upd Z 18 (-9)) 20 0) 21 6) q1 q2 q3 q4 q5 q6 q7 q8 q9 q10 q11 sd)), (q4, .inl (G.2.1, 55, .inl pg)), (q5, .inl (G.2.1, 55, .inl (upd (upd F9 1 (F9 1)) 4 (F9 4))))]) := hD117
      refine lv_if_eq (x := r41) (tgt := 44) hx hb dX7_sentBy_32 (by decide) (fun (c42 : r41 = 0) => ?_) (fun (c42 : ¬ (r41 = 0)) => ?_)
      · skip
        refine lv_iconst (v := 1) hx hb dX7_sentBy_44 (by decide) ?_
        refine k_iast kx hK hP118 hD119 hS117 2 rfl 16 rfl (by decide) (by decide) dX7_sentBy_45 (fun H120 locs120 hP120 hD120 hS120 => ?_)
        have hP121 : va_P G.1 vwCl ([(h0, .inr (7, cM (upd (upd (upd Z 18 (-9)) 20 0) 21 6) q1 q2 q3 q4 q5 q6 q7 q8 q9 q10 q11 sd)), (q4, .inl (G.2.1, 55, .inl pg)), (q5, .inl (G.2.1, 55, .inl (upd (upd (upd F9 1 (F9 1)) 4 (F9 4)) 16 1)))]) H120 := hP120
        have hD122 : va_D A ([(h0, .inr (7, cM (upd (upd (upd Z 18 (-9)) 20 0) 21 6) q1 q2 q3 q4 q5 q6 q7 q8 q9 q10 q11 sd)), (q4, .inl (G.2.1, 55, .inl pg)), (q5, .inl (G.2.1, 55, .inl (upd (upd (upd F9 1 (F9 1)) 4 (F9 4)) 16 1)))]) := hD120
        refine lv_aload_n hx hb dX7_sentBy_46 rfl (lv_at hl116 2 rfl) ?_
        refine va_get (ci := 7) (v := .ref q5) (C := RX7) (T := TX7) (N := 22) hx hb ht inX7 hown hK.1 hP121 0 rfl rfl 8 (by decide) (ht _ q_674) (fun _ h9 => h9) rfl dX7_sentBy_47 ?_
        refine lv_iload_n hx hb dX7_sentBy_50 rfl (lv_at hl116 0 rfl) ?_
        refine lv_iconst (v := 3) hx hb dX7_sentBy_51 (by decide) ?_
        refine lv_iadd hx hb dX7_sentBy_52 ?_
        refine k_top (y := 19) (by decide +kernel) ?_
        refine lv_iload_n hx hb dX7_sentBy_53 rfl (lv_at hl116 3 rfl) ?_
        refine lv_iload_n hx hb dX7_sentBy_54 rfl (lv_at hl116 1 rfl) ?_
        refine k_calli (kRunS (As := [.int p0, .int 2]) (rest := [.int 19, .ref q5]) kx (c_X7_has l G p0 2) q_814 q_812 q_36 q_813 nX7_has ⟨Nat.le_of_ble_eq_true rfl, Nat.le_of_ble_eq_true rfl⟩ hK hP121 hD122 (kCtx_nil _) rfl hl116.1 (Nat.le_of_ble_eq_true rfl) dX7_sentBy_55 ⟨Nat.zero_le _, Nat.zero_le _⟩) hP121 hD122 hS120 hA (kCtx_nil _) (fun _ => rfl) (fun r43 _ H123 locs123 hw hP123 hD123 hS123 => ?_)
        have hr43 : r_X7_has p0 2 = r43 := (show r43 = r_X7_has p0 2 from hw).symm
        have heq : r41 = r43 := hr41.symm.trans hr43
        subst heq
        have hP124 : va_P G.1 vwCl ([(h0, .inr (7, cM (upd (upd (upd Z 18 (-9)) 20 0) 21 6) q1 q2 q3 q4 q5 q6 q7 q8 q9 q10 q11 sd)), (q4, .inl (G.2.1, 55, .inl pg)), (q5, .inl (G.2.1, 55, .inl (upd (upd (upd F9 1 (F9 1)) 4 (F9 4)) 16 1)))]) H123 := hP123
        have hD125 : va_D A ([(h0, .inr (7, cM (upd (upd (upd Z 18 (-9)) 20 0) 21 6) q1 q2 q3 q4 q5 q6 q7 q8 q9 q10 q11 sd)), (q4, .inl (G.2.1, 55, .inl pg)), (q5, .inl (G.2.1, 55, .inl (upd (upd (upd F9 1 (F9 1)) 4 (F9 4)) 16 1)))]) := hD123
        refine lv_if_eq (x := r41) (tgt := 72) hx hb dX7_sentBy_58 (by decide) (fun (c44 : r41 = 0) => ?_) (fun (c44 : ¬ (r41 = 0)) => absurd c42 c44)
        refine lv_iconst (v := 1) hx hb dX7_sentBy_72 (by decide) ?_
        refine k_iast kx hK hP124 hD125 hS123 2 rfl 19 rfl (by decide) (by decide) dX7_sentBy_73 (fun H126 locs126 hP126 hD126 hS126 => ?_)
        have hP127 : va_P G.1 vwCl ([(h0, .inr (7, cM (upd (upd (upd Z 18 (-9)) 20 0) 21 6) q1 q2 q3 q4 q5 q6 q7 q8 q9 q10 q11 sd)), (q4, .inl (G.2.1, 55, .inl pg)), (q5, .inl (G.2.1, 55, .inl (upd (upd (upd (upd F9 1 (F9 1)) 4 (F9 4)) 16 1) 19 1)))]) H126 := hP126
        have hD128 : va_D A ([(h0, .inr (7, cM (upd (upd (upd Z 18 (-9)) 20 0) 21 6) q1 q2 q3 q4 q5 q6 q7 q8 q9 q10 q11 sd)), (q4, .inl (G.2.1, 55, .inl pg)), (q5, .inl (G.2.1, 55, .inl (upd (upd (upd (upd F9 1 (F9 1)) 4 (F9 4)) 16 1) 19 1)))]) := hD126
        refine lv_iinc (v := 3) (lv' := [(2, .int 3), (3, .int 16), (0, .ref h0), (1, .int p0)]) hx hb dX7_sentBy_74 hl116 (k := 1) rfl (by decide +kernel) (by decide) rfl (fun ls129 hl129 => ?_)
        refine lv_goto (tgt := 6) hx hb dX7_sentBy_77 (by decide) ?_
        have e0 : t_X7_sentBy_3_tr p0 F9 = upd (upd (upd (upd F9 1 (F9 1)) 4 (F9 4)) 16 1) 19 1 := by rw [t_X7_sentBy_3_tr]; (try rw [hr41]); rw [if_pos c42]
        exact cut3 (upd (upd (upd (upd F9 1 (F9 1)) 4 (F9 4)) 16 1) 19 1) _ _ _ e0 hP127 hD128 hS126 (lv_sub hl129 [2, 3, 0, 1] rfl)
      · skip
        refine lv_aload_n hx hb dX7_sentBy_35 rfl (lv_at hl116 2 rfl) ?_
        refine va_get (ci := 7) (v := .ref q5) (C := RX7) (T := TX7) (N := 22) hx hb ht inX7 hown hK.1 hP118 0 rfl rfl 8 (by decide) (ht _ q_674) (fun _ h9 => h9) rfl dX7_sentBy_36 ?_
        refine lv_iload_n hx hb dX7_sentBy_39 rfl (lv_at hl116 0 rfl) ?_
        refine k_iald (v := (F9 16)) kx hK hP118 2 rfl 16 rfl (by decide) (by decide) rfl dX7_sentBy_40 ?_
        refine lv_goto (tgt := 45) hx hb dX7_sentBy_41 (by decide) ?_
        refine k_iast kx hK hP118 hD119 hS117 2 rfl 16 rfl (by decide) (by decide) dX7_sentBy_45 (fun H130 locs130 hP130 hD130 hS130 => ?_)
        have hP131 : va_P G.1 vwCl ([(h0, .inr (7, cM (upd (upd (upd Z 18 (-9)) 20 0) 21 6) q1 q2 q3 q4 q5 q6 q7 q8 q9 q10 q11 sd)), (q4, .inl (G.2.1, 55, .inl pg)), (q5, .inl (G.2.1, 55, .inl (upd (upd (upd F9 1 (F9 1)) 4 (F9 4)) 16 (F9 16))))]) H130 := hP130
        have hD132 : va_D A ([(h0, .inr (7, cM (upd (upd (upd Z 18 (-9)) 20 0) 21 6) q1 q2 q3 q4 q5 q6 q7 q8 q9 q10 q11 sd)), (q4, .inl (G.2.1, 55, .inl pg)), (q5, .inl (G.2.1, 55, .inl (upd (upd (upd F9 1 (F9 1)) 4 (F9 4)) 16 (F9 16))))]) := hD130
        refine lv_aload_n hx hb dX7_sentBy_46 rfl (lv_at hl116 2 rfl) ?_
        refine va_get (ci := 7) (v := .ref q5) (C := RX7) (T := TX7) (N := 22) hx hb ht inX7 hown hK.1 hP131 0 rfl rfl 8 (by decide) (ht _ q_674) (fun _ h9 => h9) rfl dX7_sentBy_47 ?_
        refine lv_iload_n hx hb dX7_sentBy_50 rfl (lv_at hl116 0 rfl) ?_
        refine lv_iconst (v := 3) hx hb dX7_sentBy_51 (by decide) ?_
        refine lv_iadd hx hb dX7_sentBy_52 ?_
        refine k_top (y := 19) (by decide +kernel) ?_
        refine lv_iload_n hx hb dX7_sentBy_53 rfl (lv_at hl116 3 rfl) ?_
        refine lv_iload_n hx hb dX7_sentBy_54 rfl (lv_at hl116 1 rfl) ?_
        refine k_calli (kRunS (As := [.int p0, .int 2]) (rest := [.int 19, .ref q5]) kx (c_X7_has l G p0 2) q_814 q_812 q_36 q_813 nX7_has ⟨Nat.le_of_ble_eq_true rfl, Nat.le_of_ble_eq_true rfl⟩ hK hP131 hD132 (kCtx_nil _) rfl hl116.1 (Nat.le_of_ble_eq_true rfl) dX7_sentBy_55 ⟨Nat.zero_le _, Nat.zero_le _⟩) hP131 hD132 hS130 hA (kCtx_nil _) (fun _ => rfl) (fun r45 _ H133 locs133 hw hP133 hD133 hS133 => ?_)
        have hr45 : r_X7_has p0 2 = r45 := (show r45 = r_X7_has p0 2 from hw).symm
        have heq : r41 = r45 := hr41.symm.trans hr45
        subst heq
        have hP134 : va_P G.1 vwCl ([(h0, .inr (7, cM (upd (upd (upd Z 18 (-9)) 20 0) 21 6) q1 q2 q3 q4 q5 q6 q7 q8 q9 q10 q11 sd)), (q4, .inl (G.2.1, 55, .inl pg)), (q5, .inl (G.2.1, 55, .inl (upd (upd (upd F9 1 (F9 1)) 4 (F9 4)) 16 (F9 16))))]) H133 := hP133
        have hD135 : va_D A ([(h0, .inr (7, cM (upd (upd (upd Z 18 (-9)) 20 0) 21 6) q1 q2 q3 q4 q5 q6 q7 q8 q9 q10 q11 sd)), (q4, .inl (G.2.1, 55, .inl pg)), (q5, .inl (G.2.1, 55, .inl (upd (upd (upd F9 1 (F9 1)) 4 (F9 4)) 16 (F9 16))))]) := hD133
        refine lv_if_eq (x := r41) (tgt := 72) hx hb dX7_sentBy_58 (by decide) (fun (c46 : r41 = 0) => absurd c46 c42) (fun (c46 : ¬ (r41 = 0)) => ?_)
        refine lv_aload_n hx hb dX7_sentBy_61 rfl (lv_at hl116 2 rfl) ?_
        refine va_get (ci := 7) (v := .ref q5) (C := RX7) (T := TX7) (N := 22) hx hb ht inX7 hown hK.1 hP134 0 rfl rfl 8 (by decide) (ht _ q_674) (fun _ h9 => h9) rfl dX7_sentBy_62 ?_
        refine lv_iload_n hx hb dX7_sentBy_65 rfl (lv_at hl116 0 rfl) ?_
        refine lv_iconst (v := 3) hx hb dX7_sentBy_66 (by decide) ?_
        refine lv_iadd hx hb dX7_sentBy_67 ?_
        refine k_top (y := 19) (by decide +kernel) ?_
        refine k_iald (v := (F9 19)) kx hK hP134 2 rfl 19 rfl (by decide) (by decide) rfl dX7_sentBy_68 ?_
        refine lv_goto (tgt := 73) hx hb dX7_sentBy_69 (by decide) ?_
        refine k_iast kx hK hP134 hD135 hS133 2 rfl 19 rfl (by decide) (by decide) dX7_sentBy_73 (fun H136 locs136 hP136 hD136 hS136 => ?_)
        have hP137 : va_P G.1 vwCl ([(h0, .inr (7, cM (upd (upd (upd Z 18 (-9)) 20 0) 21 6) q1 q2 q3 q4 q5 q6 q7 q8 q9 q10 q11 sd)), (q4, .inl (G.2.1, 55, .inl pg)), (q5, .inl (G.2.1, 55, .inl (upd (upd (upd (upd F9 1 (F9 1)) 4 (F9 4)) 16 (F9 16)) 19 (F9 19))))]) H136 := hP136
        have hD138 : va_D A ([(h0, .inr (7, cM (upd (upd (upd Z 18 (-9)) 20 0) 21 6) q1 q2 q3 q4 q5 q6 q7 q8 q9 q10 q11 sd)), (q4, .inl (G.2.1, 55, .inl pg)), (q5, .inl (G.2.1, 55, .inl (upd (upd (upd (upd F9 1 (F9 1)) 4 (F9 4)) 16 (F9 16)) 19 (F9 19))))]) := hD136
        refine lv_iinc (v := 3) (lv' := [(2, .int 3), (3, .int 16), (0, .ref h0), (1, .int p0)]) hx hb dX7_sentBy_74 hl116 (k := 1) rfl (by decide +kernel) (by decide) rfl (fun ls139 hl139 => ?_)
        refine lv_goto (tgt := 6) hx hb dX7_sentBy_77 (by decide) ?_
        have e0 : t_X7_sentBy_3_tr p0 F9 = upd (upd (upd (upd F9 1 (F9 1)) 4 (F9 4)) 16 (F9 16)) 19 (F9 19) := by rw [t_X7_sentBy_3_tr]; (try rw [hr41]); rw [if_neg c42]
        exact cut3 (upd (upd (upd (upd F9 1 (F9 1)) 4 (F9 4)) 16 (F9 16)) 19 (F9 19)) _ _ _ e0 hP137 hD138 hS136 (lv_sub hl139 [2, 3, 0, 1] rfl)
  refine lv_iload_n hx hb dX7_sentBy_6 rfl (lv_at hl4 0 rfl) ?_
  refine lv_iconst (v := 4) hx hb dX7_sentBy_7 (by decide) ?_
  refine lv_icmp_ge (x := 0) (y := 4) (tgt := 80) hx hb dX7_sentBy_8 (by decide) (fun (c2 : 4 ≤ 0) => absurd c2 (by decide)) (fun (c2 : ¬ (4 ≤ 0)) => ?_)
  refine lv_bipush (v := 16) hx hb dX7_sentBy_11 (by decide) ?_
  refine lv_iload_n hx hb dX7_sentBy_13 rfl (lv_at hl4 0 rfl) ?_
  refine lv_iconst (v := 2) hx hb dX7_sentBy_14 (by decide) ?_
  refine lv_idiv hx hb dX7_sentBy_15 (by decide) ?_
  refine k_top (y := 0) (by decide +kernel) ?_
  refine lv_imul hx hb dX7_sentBy_16 ?_
  refine k_top (y := 0) (by decide +kernel) ?_
  refine lv_iload_n hx hb dX7_sentBy_17 rfl (lv_at hl4 0 rfl) ?_
  refine lv_iconst (v := 2) hx hb dX7_sentBy_18 (by decide) ?_
  refine lv_irem hx hb dX7_sentBy_19 (by decide) ?_
  refine k_top (y := 0) (by decide +kernel) ?_
  refine lv_iadd hx hb dX7_sentBy_20 ?_
  refine k_top (y := 0) (by decide +kernel) ?_
  refine lv_istore_n (lv' := [(3, .int 0), (2, .int 0), (0, .ref h0), (1, .int p0)]) hx hb dX7_sentBy_21 rfl hl4 (by decide) rfl (fun ls140 hl140 => ?_)
  refine lv_aload_n hx hb dX7_sentBy_22 rfl (lv_at hl140 2 rfl) ?_
  refine va_get (ci := 7) (v := .ref q5) (C := RX7) (T := TX7) (N := 22) hx hb ht inX7 hown hK.1 hP2 0 rfl rfl 8 (by decide) (ht _ q_674) (fun _ h9 => h9) rfl dX7_sentBy_23 ?_
  refine lv_iload_n hx hb dX7_sentBy_26 rfl (lv_at hl140 0 rfl) ?_
  refine lv_iload_n hx hb dX7_sentBy_27 rfl (lv_at hl140 3 rfl) ?_
  refine lv_iload_n hx hb dX7_sentBy_28 rfl (lv_at hl140 1 rfl) ?_
  refine k_calli (kRunS (As := [.int p0, .int 0]) (rest := [.int 0, .ref q5]) kx (c_X7_has l G p0 0) q_814 q_812 q_36 q_813 nX7_has ⟨Nat.le_of_ble_eq_true rfl, Nat.le_of_ble_eq_true rfl⟩ hK hP2 hD3 (kCtx_nil _) rfl hl140.1 (Nat.le_of_ble_eq_true rfl) dX7_sentBy_29 ⟨Nat.zero_le _, Nat.zero_le _⟩) hP2 hD3 hS1 hA (kCtx_nil _) (fun _ => rfl) (fun r3 _ H141 locs141 hw hP141 hD141 hS141 => ?_)
  have hr3 : r_X7_has p0 0 = r3 := (show r3 = r_X7_has p0 0 from hw).symm
  have hP142 : va_P G.1 vwCl ([(h0, .inr (7, cM (upd (upd (upd Z 18 (-9)) 20 0) 21 6) q1 q2 q3 q4 q5 q6 q7 q8 q9 q10 q11 sd)), (q4, .inl (G.2.1, 55, .inl pg)), (q5, .inl (G.2.1, 55, .inl (s_X7_lay_t pg tr)))]) H141 := hP141
  have hD143 : va_D A ([(h0, .inr (7, cM (upd (upd (upd Z 18 (-9)) 20 0) 21 6) q1 q2 q3 q4 q5 q6 q7 q8 q9 q10 q11 sd)), (q4, .inl (G.2.1, 55, .inl pg)), (q5, .inl (G.2.1, 55, .inl (s_X7_lay_t pg tr)))]) := hD141
  refine lv_if_eq (x := r3) (tgt := 44) hx hb dX7_sentBy_32 (by decide) (fun (c4 : r3 = 0) => ?_) (fun (c4 : ¬ (r3 = 0)) => ?_)
  · skip
    refine lv_iconst (v := 1) hx hb dX7_sentBy_44 (by decide) ?_
    refine k_iast kx hK hP142 hD143 hS141 2 rfl 0 rfl (by decide) (by decide) dX7_sentBy_45 (fun H144 locs144 hP144 hD144 hS144 => ?_)
    have hP145 : va_P G.1 vwCl ([(h0, .inr (7, cM (upd (upd (upd Z 18 (-9)) 20 0) 21 6) q1 q2 q3 q4 q5 q6 q7 q8 q9 q10 q11 sd)), (q4, .inl (G.2.1, 55, .inl pg)), (q5, .inl (G.2.1, 55, .inl (upd (s_X7_lay_t pg tr) 0 1)))]) H144 := hP144
    have hD146 : va_D A ([(h0, .inr (7, cM (upd (upd (upd Z 18 (-9)) 20 0) 21 6) q1 q2 q3 q4 q5 q6 q7 q8 q9 q10 q11 sd)), (q4, .inl (G.2.1, 55, .inl pg)), (q5, .inl (G.2.1, 55, .inl (upd (s_X7_lay_t pg tr) 0 1)))]) := hD144
    refine lv_aload_n hx hb dX7_sentBy_46 rfl (lv_at hl140 2 rfl) ?_
    refine va_get (ci := 7) (v := .ref q5) (C := RX7) (T := TX7) (N := 22) hx hb ht inX7 hown hK.1 hP145 0 rfl rfl 8 (by decide) (ht _ q_674) (fun _ h9 => h9) rfl dX7_sentBy_47 ?_
    refine lv_iload_n hx hb dX7_sentBy_50 rfl (lv_at hl140 0 rfl) ?_
    refine lv_iconst (v := 3) hx hb dX7_sentBy_51 (by decide) ?_
    refine lv_iadd hx hb dX7_sentBy_52 ?_
    refine k_top (y := 3) (by decide +kernel) ?_
    refine lv_iload_n hx hb dX7_sentBy_53 rfl (lv_at hl140 3 rfl) ?_
    refine lv_iload_n hx hb dX7_sentBy_54 rfl (lv_at hl140 1 rfl) ?_
    refine k_calli (kRunS (As := [.int p0, .int 0]) (rest := [.int 3, .ref q5]) kx (c_X7_has l G p0 0) q_814 q_812 q_36 q_813 nX7_has ⟨Nat.le_of_ble_eq_true rfl, Nat.le_of_ble_eq_true rfl⟩ hK hP145 hD146 (kCtx_nil _) rfl hl140.1 (Nat.le_of_ble_eq_true rfl) dX7_sentBy_55 ⟨Nat.zero_le _, Nat.zero_le _⟩) hP145 hD146 hS144 hA (kCtx_nil _) (fun _ => rfl) (fun r5 _ H147 locs147 hw hP147 hD147 hS147 => ?_)
    have hr5 : r_X7_has p0 0 = r5 := (show r5 = r_X7_has p0 0 from hw).symm
    have heq : r3 = r5 := hr3.symm.trans hr5
    subst heq
    have hP148 : va_P G.1 vwCl ([(h0, .inr (7, cM (upd (upd (upd Z 18 (-9)) 20 0) 21 6) q1 q2 q3 q4 q5 q6 q7 q8 q9 q10 q11 sd)), (q4, .inl (G.2.1, 55, .inl pg)), (q5, .inl (G.2.1, 55, .inl (upd (s_X7_lay_t pg tr) 0 1)))]) H147 := hP147
    have hD149 : va_D A ([(h0, .inr (7, cM (upd (upd (upd Z 18 (-9)) 20 0) 21 6) q1 q2 q3 q4 q5 q6 q7 q8 q9 q10 q11 sd)), (q4, .inl (G.2.1, 55, .inl pg)), (q5, .inl (G.2.1, 55, .inl (upd (s_X7_lay_t pg tr) 0 1)))]) := hD147
    refine lv_if_eq (x := r3) (tgt := 72) hx hb dX7_sentBy_58 (by decide) (fun (c6 : r3 = 0) => ?_) (fun (c6 : ¬ (r3 = 0)) => absurd c4 c6)
    refine lv_iconst (v := 1) hx hb dX7_sentBy_72 (by decide) ?_
    refine k_iast kx hK hP148 hD149 hS147 2 rfl 3 rfl (by decide) (by decide) dX7_sentBy_73 (fun H150 locs150 hP150 hD150 hS150 => ?_)
    have hP151 : va_P G.1 vwCl ([(h0, .inr (7, cM (upd (upd (upd Z 18 (-9)) 20 0) 21 6) q1 q2 q3 q4 q5 q6 q7 q8 q9 q10 q11 sd)), (q4, .inl (G.2.1, 55, .inl pg)), (q5, .inl (G.2.1, 55, .inl (upd (upd (s_X7_lay_t pg tr) 0 1) 3 1)))]) H150 := hP150
    have hD152 : va_D A ([(h0, .inr (7, cM (upd (upd (upd Z 18 (-9)) 20 0) 21 6) q1 q2 q3 q4 q5 q6 q7 q8 q9 q10 q11 sd)), (q4, .inl (G.2.1, 55, .inl pg)), (q5, .inl (G.2.1, 55, .inl (upd (upd (s_X7_lay_t pg tr) 0 1) 3 1)))]) := hD150
    refine lv_iinc (v := 1) (lv' := [(2, .int 1), (3, .int 0), (0, .ref h0), (1, .int p0)]) hx hb dX7_sentBy_74 hl140 (k := 1) rfl (by decide +kernel) (by decide) rfl (fun ls153 hl153 => ?_)
    refine lv_goto (tgt := 6) hx hb dX7_sentBy_77 (by decide) ?_
    have e0 : t_X7_sentBy_1_tr pg tr p0 = upd (upd (s_X7_lay_t pg tr) 0 1) 3 1 := by rw [t_X7_sentBy_1_tr]; (try rw [hr3]); rw [if_pos c4]
    exact cut1 (upd (upd (s_X7_lay_t pg tr) 0 1) 3 1) _ _ _ e0 hP151 hD152 hS150 (lv_sub hl153 [2, 3, 0, 1] rfl)
  · skip
    refine lv_aload_n hx hb dX7_sentBy_35 rfl (lv_at hl140 2 rfl) ?_
    refine va_get (ci := 7) (v := .ref q5) (C := RX7) (T := TX7) (N := 22) hx hb ht inX7 hown hK.1 hP142 0 rfl rfl 8 (by decide) (ht _ q_674) (fun _ h9 => h9) rfl dX7_sentBy_36 ?_
    refine lv_iload_n hx hb dX7_sentBy_39 rfl (lv_at hl140 0 rfl) ?_
    refine k_iald (v := (s_X7_lay_t pg tr 0)) kx hK hP142 2 rfl 0 rfl (by decide) (by decide) rfl dX7_sentBy_40 ?_
    refine lv_goto (tgt := 45) hx hb dX7_sentBy_41 (by decide) ?_
    refine k_iast kx hK hP142 hD143 hS141 2 rfl 0 rfl (by decide) (by decide) dX7_sentBy_45 (fun H154 locs154 hP154 hD154 hS154 => ?_)
    have hP155 : va_P G.1 vwCl ([(h0, .inr (7, cM (upd (upd (upd Z 18 (-9)) 20 0) 21 6) q1 q2 q3 q4 q5 q6 q7 q8 q9 q10 q11 sd)), (q4, .inl (G.2.1, 55, .inl pg)), (q5, .inl (G.2.1, 55, .inl (upd (s_X7_lay_t pg tr) 0 (s_X7_lay_t pg tr 0))))]) H154 := hP154
    have hD156 : va_D A ([(h0, .inr (7, cM (upd (upd (upd Z 18 (-9)) 20 0) 21 6) q1 q2 q3 q4 q5 q6 q7 q8 q9 q10 q11 sd)), (q4, .inl (G.2.1, 55, .inl pg)), (q5, .inl (G.2.1, 55, .inl (upd (s_X7_lay_t pg tr) 0 (s_X7_lay_t pg tr 0))))]) := hD154
    refine lv_aload_n hx hb dX7_sentBy_46 rfl (lv_at hl140 2 rfl) ?_
    refine va_get (ci := 7) (v := .ref q5) (C := RX7) (T := TX7) (N := 22) hx hb ht inX7 hown hK.1 hP155 0 rfl rfl 8 (by decide) (ht _ q_674) (fun _ h9 => h9) rfl dX7_sentBy_47 ?_
    refine lv_iload_n hx hb dX7_sentBy_50 rfl (lv_at hl140 0 rfl) ?_
    refine lv_iconst (v := 3) hx hb dX7_sentBy_51 (by decide) ?_
    refine lv_iadd hx hb dX7_sentBy_52 ?_
    refine k_top (y := 3) (by decide +kernel) ?_
    refine lv_iload_n hx hb dX7_sentBy_53 rfl (lv_at hl140 3 rfl) ?_
    refine lv_iload_n hx hb dX7_sentBy_54 rfl (lv_at hl140 1 rfl) ?_
    refine k_calli (kRunS (As := [.int p0, .int 0]) (rest := [.int 3, .ref q5]) kx (c_X7_has l G p0 0) q_814 q_812 q_36 q_813 nX7_has ⟨Nat.le_of_ble_eq_true rfl, Nat.le_of_ble_eq_true rfl⟩ hK hP155 hD156 (kCtx_nil _) rfl hl140.1 (Nat.le_of_ble_eq_true rfl) dX7_sentBy_55 ⟨Nat.zero_le _, Nat.zero_le _⟩) hP155 hD156 hS154 hA (kCtx_nil _) (fun _ => rfl) (fun r7 _ H157 locs157 hw hP157 hD157 hS157 => ?_)
    have hr7 : r_X7_has p0 0 = r7 := (show r7 = r_X7_has p0 0 from hw).symm
    have heq : r3 = r7 := hr3.symm.trans hr7
    subst heq
    have hP158 : va_P G.1 vwCl ([(h0, .inr (7, cM (upd (upd (upd Z 18 (-9)) 20 0) 21 6) q1 q2 q3 q4 q5 q6 q7 q8 q9 q10 q11 sd)), (q4, .inl (G.2.1, 55, .inl pg)), (q5, .inl (G.2.1, 55, .inl (upd (s_X7_lay_t pg tr) 0 (s_X7_lay_t pg tr 0))))]) H157 := hP157
    have hD159 : va_D A ([(h0, .inr (7, cM (upd (upd (upd Z 18 (-9)) 20 0) 21 6) q1 q2 q3 q4 q5 q6 q7 q8 q9 q10 q11 sd)), (q4, .inl (G.2.1, 55, .inl pg)), (q5, .inl (G.2.1, 55, .inl (upd (s_X7_lay_t pg tr) 0 (s_X7_lay_t pg tr 0))))]) := hD157
    refine lv_if_eq (x := r3) (tgt := 72) hx hb dX7_sentBy_58 (by decide) (fun (c8 : r3 = 0) => absurd c8 c4) (fun (c8 : ¬ (r3 = 0)) => ?_)
    refine lv_aload_n hx hb dX7_sentBy_61 rfl (lv_at hl140 2 rfl) ?_
    refine va_get (ci := 7) (v := .ref q5) (C := RX7) (T := TX7) (N := 22) hx hb ht inX7 hown hK.1 hP158 0 rfl rfl 8 (by decide) (ht _ q_674) (fun _ h9 => h9) rfl dX7_sentBy_62 ?_
    refine lv_iload_n hx hb dX7_sentBy_65 rfl (lv_at hl140 0 rfl) ?_
    refine lv_iconst (v := 3) hx hb dX7_sentBy_66 (by decide) ?_
    refine lv_iadd hx hb dX7_sentBy_67 ?_
    refine k_top (y := 3) (by decide +kernel) ?_
    refine k_iald (v := (s_X7_lay_t pg tr 3)) kx hK hP158 2 rfl 3 rfl (by decide) (by decide) rfl dX7_sentBy_68 ?_
    refine lv_goto (tgt := 73) hx hb dX7_sentBy_69 (by decide) ?_
    refine k_iast kx hK hP158 hD159 hS157 2 rfl 3 rfl (by decide) (by decide) dX7_sentBy_73 (fun H160 locs160 hP160 hD160 hS160 => ?_)
    have hP161 : va_P G.1 vwCl ([(h0, .inr (7, cM (upd (upd (upd Z 18 (-9)) 20 0) 21 6) q1 q2 q3 q4 q5 q6 q7 q8 q9 q10 q11 sd)), (q4, .inl (G.2.1, 55, .inl pg)), (q5, .inl (G.2.1, 55, .inl (upd (upd (s_X7_lay_t pg tr) 0 (s_X7_lay_t pg tr 0)) 3 (s_X7_lay_t pg tr 3))))]) H160 := hP160
    have hD162 : va_D A ([(h0, .inr (7, cM (upd (upd (upd Z 18 (-9)) 20 0) 21 6) q1 q2 q3 q4 q5 q6 q7 q8 q9 q10 q11 sd)), (q4, .inl (G.2.1, 55, .inl pg)), (q5, .inl (G.2.1, 55, .inl (upd (upd (s_X7_lay_t pg tr) 0 (s_X7_lay_t pg tr 0)) 3 (s_X7_lay_t pg tr 3))))]) := hD160
    refine lv_iinc (v := 1) (lv' := [(2, .int 1), (3, .int 0), (0, .ref h0), (1, .int p0)]) hx hb dX7_sentBy_74 hl140 (k := 1) rfl (by decide +kernel) (by decide) rfl (fun ls163 hl163 => ?_)
    refine lv_goto (tgt := 6) hx hb dX7_sentBy_77 (by decide) ?_
    have e0 : t_X7_sentBy_1_tr pg tr p0 = upd (upd (s_X7_lay_t pg tr) 0 (s_X7_lay_t pg tr 0)) 3 (s_X7_lay_t pg tr 3) := by rw [t_X7_sentBy_1_tr]; (try rw [hr3]); rw [if_neg c4]
    exact cut1 (upd (upd (s_X7_lay_t pg tr) 0 (s_X7_lay_t pg tr 0)) 3 (s_X7_lay_t pg tr 3)) _ _ _ e0 hP161 hD162 hS160 (lv_sub hl163 [2, 3, 0, 1] rfl)
